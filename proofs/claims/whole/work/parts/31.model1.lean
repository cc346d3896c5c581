section
variable {l : Launch} {ad : Nat → Nat} {D : va_G} {cy : Nat → ClassId}
/-! THE MODEL'S ROW OF NUMBERS holds a town -/
def ms (σ : xH) (c : Nat) (T : Tw) : Prop := σ.1 c 0 = tDay T ∧ σ.1 c 1 = tIn T ∧ σ.1 c 2 = nI (tN T) ∧ (∀ i, i < 60 → σ.1 c (3 + i) = tTh T i) ∧ (∀ i, i < 60 → σ.1 c (63 + i) = tAg T i) ∧ (∀ d, d < tN T → σ.1 c (123 + 3 * d) = tKd T d) ∧ (∀ d, d < tN T → σ.1 c (123 + 3 * d + 1) = tWs T d) ∧ (∀ d, d < tN T → σ.1 c (123 + 3 * d + 2) = nI (tGo T d)) ∧ tN T ≤ 8 ∧ ∀ d, d < tN T → tGo T d < 3
theorem ms_keep {σ τ : xH} {c e : Nat} {T : Tw} (h : ms σ c T) (g : ∀ i, i < 147 → τ.1 e i = σ.1 c i) : ms τ e T := by
  obtain ⟨h1, h2, h3, h4, h5, h6, h7, h8, h9, h10⟩ := h
  exact ⟨by rw [g 0 (by omega)]; exact h1, by rw [g 1 (by omega)]; exact h2, by rw [g 2 (by omega)]; exact h3, fun i hi => by rw [g _ (by omega)]; exact h4 i hi, fun i hi => by rw [g _ (by omega)]; exact h5 i hi, fun d hd => by rw [g _ (by omega)]; exact h6 d hd, fun d hd => by rw [g _ (by omega)]; exact h7 d hd, fun d hd => by rw [g _ (by omega)]; exact h8 d hd, h9, h10⟩
theorem ms_day {σ : xH} {c : Nat} {T : Tw} (h : ms σ c T) : σ.1 c 0 = tDay T := h.1
theorem ms_in {σ : xH} {c : Nat} {T : Tw} (h : ms σ c T) : σ.1 c 1 = tIn T := h.2.1
theorem ms_n {σ : xH} {c : Nat} {T : Tw} (h : ms σ c T) : σ.1 c 2 = nI (tN T) := h.2.2.1
theorem ms_th {σ : xH} {c i : Nat} {T : Tw} (h : ms σ c T) (hi : i < 60) : σ.1 c (3 + i) = tTh T i := h.2.2.2.1 i hi
theorem ms_ag {σ : xH} {c i : Nat} {T : Tw} (h : ms σ c T) (hi : i < 60) : σ.1 c (63 + i) = tAg T i := h.2.2.2.2.1 i hi
theorem ms_kd {σ : xH} {c d : Nat} {T : Tw} (h : ms σ c T) (hd : d < tN T) : σ.1 c (123 + 3 * d) = tKd T d := h.2.2.2.2.2.1 d hd
theorem ms_ws {σ : xH} {c d : Nat} {T : Tw} (h : ms σ c T) (hd : d < tN T) : σ.1 c (123 + 3 * d + 1) = tWs T d := h.2.2.2.2.2.2.1 d hd
theorem ms_go {σ : xH} {c d : Nat} {T : Tw} (h : ms σ c T) (hd : d < tN T) : σ.1 c (123 + 3 * d + 2) = nI (tGo T d) := h.2.2.2.2.2.2.2.1 d hd
theorem ms_8 {σ : xH} {c : Nat} {T : Tw} (h : ms σ c T) : tN T ≤ 8 := h.2.2.2.2.2.2.2.2.1
theorem ms_g3 {σ : xH} {c d : Nat} {T : Tw} (h : ms σ c T) (hd : d < tN T) : tGo T d < 3 := h.2.2.2.2.2.2.2.2.2 d hd
/-- only what is used to think has changed: the paces, the two sums -/
def fq (σ τ : xH) : Prop := τ.2 = σ.2 ∧ (∀ q, q ≠ 0 → q ≠ 5 → τ.1 q = σ.1 q) ∧ ∀ i, i ≠ 6 → i ≠ 7 → τ.1 0 i = σ.1 0 i
theorem fq_rf (σ : xH) : fq σ σ := ⟨rfl, fun _ _ _ => rfl, fun _ _ _ => rfl⟩
theorem fq_tr {σ τ υ : xH} (h : fq σ τ) (g : fq τ υ) : fq σ υ := ⟨g.1.trans h.1, fun q a b => (g.2.1 q a b).trans (h.2.1 q a b), fun i a b => (g.2.2 i a b).trans (h.2.2 i a b)⟩
theorem ms_fq {σ τ : xH} {c : Nat} {T : Tw} (h : ms σ c T) (f : fq σ τ) (h0 : c ≠ 0) (h5 : c ≠ 5) : ms τ c T := ms_keep h (fun i _ => by rw [f.2.1 c h0 h5])
/-- and the row itself -/
def fg (σ τ : xH) : Prop := τ.2 = σ.2 ∧ (∀ q, q ≠ 0 → q ≠ 1 → q ≠ 5 → τ.1 q = σ.1 q) ∧ ∀ i, i ≠ 6 → i ≠ 7 → τ.1 0 i = σ.1 0 i
theorem fg_rf (σ : xH) : fg σ σ := ⟨rfl, fun _ _ _ _ => rfl, fun _ _ _ => rfl⟩
theorem fg_tr {σ τ υ : xH} (h : fg σ τ) (g : fg τ υ) : fg σ υ := ⟨g.1.trans h.1, fun q a b c => (g.2.1 q a b c).trans (h.2.1 q a b c), fun i a b => (g.2.2 i a b).trans (h.2.2 i a b)⟩
theorem fq_fg {σ τ : xH} (h : fq σ τ) : fg σ τ := ⟨h.1, fun q a _ c => h.2.1 q a c, h.2.2⟩
theorem fg_1 {σ : xH} {f : Nat → Int32} : fg σ (xui σ 1 f) := ⟨rfl, fun q _ a _ => xui_o _ _ a, fun i _ _ => by rw [xui_o _ _ (by omega)]⟩
set_option maxHeartbeats 4000000 in
set_option maxRecDepth 20000 in
theorem c_X5_in1 {σ : xH} {K : Int32 → xH → Prop} (v a b : Int32) (hk : K (xb (vR a b v)) σ) : Evi l (oM ad D cy) mX5_in1 [.int v, .int a, .int b] σ K := by
  refine x_enter (ls := [some (.int v), some (.int a), some (.int b)]) rfl ?_
  refine x_iload_n (i := 0) dX5_in1_0 rfl rfl ?_
  refine x_iload_n (i := 1) dX5_in1_1 rfl rfl ?_
  refine x_iclt (tgt := 14) dX5_in1_2 rfl (fun h2 => ?_) (fun h2 => ?_)
  · skip
    refine x_iconstN (n := 0) dX5_in1_14 ?_
    exact x_iretz dX5_in1_15 rfl (by decide) (by simpa (decide := true) [xb, vR, h2] using hk)
  · skip
    refine x_iload_n (i := 0) dX5_in1_5 rfl rfl ?_
    refine x_iload_n (i := 2) dX5_in1_6 rfl rfl ?_
    refine x_icgt (tgt := 14) dX5_in1_7 rfl (fun h7 => ?_) (fun h7 => ?_)
    · skip
      refine x_iconstN (n := 0) dX5_in1_14 ?_
      exact x_iretz dX5_in1_15 rfl (by decide) (by simpa (decide := true) [xb, vR, h2, h7] using hk)
    · skip
      refine x_iconstN (n := 1) dX5_in1_10 ?_
      refine x_goto (tgt := 15) dX5_in1_11 rfl ?_
      exact x_iretz dX5_in1_15 rfl (by decide) (by simpa (decide := true) [xb, vR, h2, h7] using hk)
set_option maxHeartbeats 4000000 in
set_option maxRecDepth 20000 in
theorem c_X5_less {σ : xH} {K : Int32 → xH → Prop} (a b : Int32) (hk : K (if a < b then a else b) σ) : Evi l (oM ad D cy) mX5_less [.int a, .int b] σ K := by
  refine x_enter (ls := [some (.int a), some (.int b)]) rfl ?_
  refine x_iload_n (i := 0) dX5_less_0 rfl rfl ?_
  refine x_iload_n (i := 1) dX5_less_1 rfl rfl ?_
  refine x_icge (tgt := 9) dX5_less_2 rfl (fun h2 => ?_) (fun h2 => ?_)
  · skip
    refine x_iload_n (i := 1) dX5_less_9 rfl rfl ?_
    exact x_ireti dX5_less_10 rfl (by first | (rw [if_neg (Int32.not_lt.mpr h2)] at hk; exact hk) | (rw [if_pos (Int32.not_le.mp h2)] at hk; exact hk) | (rw [if_pos h2] at hk; exact hk) | (rw [if_neg h2] at hk; exact hk))
  · skip
    refine x_iload_n (i := 0) dX5_less_5 rfl rfl ?_
    refine x_goto (tgt := 10) dX5_less_6 rfl ?_
    exact x_ireti dX5_less_10 rfl (by first | (rw [if_neg (Int32.not_lt.mpr h2)] at hk; exact hk) | (rw [if_pos (Int32.not_le.mp h2)] at hk; exact hk) | (rw [if_pos h2] at hk; exact hk) | (rw [if_neg h2] at hk; exact hk))
theorem vR_vN {n : Nat} {a : Int32} (hn : n < 2147483647) : vR (nI 0) (nI n) a ↔ vN (n + 1) a := by
  unfold vR vN
  have e0 : (0 : Int32).toInt = 0 := by decide
  rw [Int32.lt_iff_toInt_lt, Int32.lt_iff_toInt_lt, Int32.lt_iff_toInt_lt, Int32.le_iff_toInt_le, nI_toInt (by omega), nI_toInt (by omega), nI_toInt (by omega), e0]
  omega
theorem xb_congr {P Q : Prop} [Decidable P] [Decidable Q] (h : P ↔ Q) : xb P = xb Q := by
  by_cases p : P
  · rw [xb_t p, xb_t (h.mp p)]
  · rw [xb_f p, xb_f (fun q => p (h.mpr q))]
theorem xb_vN (n : Nat) {a : Int32} (hn : n < 2147483647) : xb (vR (nI 0) (nI n) a) = xb (vN (n + 1) a) := xb_congr (vR_vN hn)
set_option maxHeartbeats 4000000 in
set_option maxRecDepth 20000 in
theorem c_X5_isStreet {σ : xH} {K : Int32 → xH → Prop} (v : Int32) (hk : K (xb (vN 3 v)) σ) : Evi l (oM ad D cy) mX5_isStreet [.int v] σ K := by
  refine x_enter (ls := [some (.int v)]) rfl ?_
  refine x_iload_n (i := 0) dX5_isStreet_0 rfl rfl ?_
  refine x_iconstN (n := 0) dX5_isStreet_1 ?_
  refine x_iconstN (n := 2) dX5_isStreet_2 ?_
  refine x_s3i dX5_isStreet_3 okX5_in1 ml_X5_52 (Nat.le_of_ble_eq_true rfl) ⟨by decide, by decide⟩ (Nat.le_of_ble_eq_true rfl) (c_X5_in1 _ _ _ ?_)
  exact x_iretz dX5_isStreet_6 rfl (xb_01 _) (by rw [xb_vN 2 (by decide)]; exact hk)
set_option maxHeartbeats 4000000 in
set_option maxRecDepth 20000 in
theorem c_X5_isStretch {σ : xH} {K : Int32 → xH → Prop} (v : Int32) (hk : K (xb (vN 20 v)) σ) : Evi l (oM ad D cy) mX5_isStretch [.int v] σ K := by
  refine x_enter (ls := [some (.int v)]) rfl ?_
  refine x_iload_n (i := 0) dX5_isStretch_0 rfl rfl ?_
  refine x_iconstN (n := 0) dX5_isStretch_1 ?_
  refine x_bipush (v := nI 19) dX5_isStretch_2 (by decide) ?_
  refine x_s3i dX5_isStretch_4 okX5_in1 ml_X5_52 (Nat.le_of_ble_eq_true rfl) ⟨by decide, by decide⟩ (Nat.le_of_ble_eq_true rfl) (c_X5_in1 _ _ _ ?_)
  exact x_iretz dX5_isStretch_7 rfl (xb_01 _) (by rw [xb_vN 19 (by decide)]; exact hk)
set_option maxHeartbeats 4000000 in
set_option maxRecDepth 20000 in
theorem c_X5_isSheet {σ : xH} {K : Int32 → xH → Prop} (v : Int32) (hk : K (xb (vR (nI 0) (nI 3) v)) σ) : Evi l (oM ad D cy) mX5_isSheet [.int v] σ K := by
  refine x_enter (ls := [some (.int v)]) rfl ?_
  refine x_iload_n (i := 0) dX5_isSheet_0 rfl rfl ?_
  refine x_iconstN (n := 0) dX5_isSheet_1 ?_
  refine x_iconstN (n := 3) dX5_isSheet_2 ?_
  refine x_s3i dX5_isSheet_3 okX5_in1 ml_X5_52 (Nat.le_of_ble_eq_true rfl) ⟨by decide, by decide⟩ (Nat.le_of_ble_eq_true rfl) (c_X5_in1 _ _ _ ?_)
  exact x_iretz dX5_isSheet_6 rfl (xb_01 _) hk
set_option maxHeartbeats 4000000 in
set_option maxRecDepth 20000 in
theorem c_X5_isWish {σ : xH} {K : Int32 → xH → Prop} (v : Int32) (hk : K (xb (vR (nI 10) (nI 80) v)) σ) : Evi l (oM ad D cy) mX5_isWish [.int v] σ K := by
  refine x_enter (ls := [some (.int v)]) rfl ?_
  refine x_iload_n (i := 0) dX5_isWish_0 rfl rfl ?_
  refine x_bipush (v := nI 10) dX5_isWish_1 (by decide) ?_
  refine x_bipush (v := nI 80) dX5_isWish_3 (by decide) ?_
  refine x_s3i dX5_isWish_5 okX5_in1 ml_X5_52 (Nat.le_of_ble_eq_true rfl) ⟨by decide, by decide⟩ (Nat.le_of_ble_eq_true rfl) (c_X5_in1 _ _ _ ?_)
  exact x_iretz dX5_isWish_8 rfl (xb_01 _) hk
set_option maxHeartbeats 4000000 in
set_option maxRecDepth 20000 in
theorem c_X5_isBus {σ : xH} {K : Int32 → xH → Prop} (k : Int32) (hk : K (xb (k = nI 1 ∨ k = nI 4)) σ) : Evi l (oM ad D cy) mX5_isBus [.int k] σ K := by
  refine x_enter (ls := [some (.int k)]) rfl ?_
  refine x_iload_n (i := 0) dX5_isBus_0 rfl rfl ?_
  refine x_iconstN (n := 1) dX5_isBus_1 ?_
  refine x_iceq (tgt := 10) dX5_isBus_2 rfl (fun h2 => ?_) (fun h2 => ?_)
  · skip
    refine x_iconstN (n := 1) dX5_isBus_10 ?_
    refine x_goto (tgt := 15) dX5_isBus_11 rfl ?_
    exact x_iretz dX5_isBus_15 rfl (by decide) (by first | (simpa (decide := true) [xb, h2] using hk) | (exfalso; simp_all (decide := true); done))
  · skip
    refine x_iload_n (i := 0) dX5_isBus_5 rfl rfl ?_
    refine x_iconstN (n := 4) dX5_isBus_6 ?_
    refine x_icne (tgt := 14) dX5_isBus_7 rfl (fun h7 => ?_) (fun h7 => ?_)
    · skip
      refine x_iconstN (n := 0) dX5_isBus_14 ?_
      exact x_iretz dX5_isBus_15 rfl (by decide) (by first | (simpa (decide := true) [xb, h2, h7] using hk) | (exfalso; simp_all (decide := true); done))
    · skip
      refine x_iconstN (n := 1) dX5_isBus_10 ?_
      refine x_goto (tgt := 15) dX5_isBus_11 rfl ?_
      exact x_iretz dX5_isBus_15 rfl (by decide) (by first | (simpa (decide := true) [xb, h2, h7] using hk) | (exfalso; simp_all (decide := true); done))
set_option maxHeartbeats 4000000 in
set_option maxRecDepth 20000 in
theorem c_X5_isLocal {σ : xH} {K : Int32 → xH → Prop} (k : Int32) (hk : K (xb (k = nI 3 ∨ k = nI 5)) σ) : Evi l (oM ad D cy) mX5_isLocal [.int k] σ K := by
  refine x_enter (ls := [some (.int k)]) rfl ?_
  refine x_iload_n (i := 0) dX5_isLocal_0 rfl rfl ?_
  refine x_iconstN (n := 3) dX5_isLocal_1 ?_
  refine x_iceq (tgt := 10) dX5_isLocal_2 rfl (fun h2 => ?_) (fun h2 => ?_)
  · skip
    refine x_iconstN (n := 1) dX5_isLocal_10 ?_
    refine x_goto (tgt := 15) dX5_isLocal_11 rfl ?_
    exact x_iretz dX5_isLocal_15 rfl (by decide) (by first | (simpa (decide := true) [xb, h2] using hk) | (exfalso; simp_all (decide := true); done))
  · skip
    refine x_iload_n (i := 0) dX5_isLocal_5 rfl rfl ?_
    refine x_iconstN (n := 5) dX5_isLocal_6 ?_
    refine x_icne (tgt := 14) dX5_isLocal_7 rfl (fun h7 => ?_) (fun h7 => ?_)
    · skip
      refine x_iconstN (n := 0) dX5_isLocal_14 ?_
      exact x_iretz dX5_isLocal_15 rfl (by decide) (by first | (simpa (decide := true) [xb, h2, h7] using hk) | (exfalso; simp_all (decide := true); done))
    · skip
      refine x_iconstN (n := 1) dX5_isLocal_10 ?_
      refine x_goto (tgt := 15) dX5_isLocal_11 rfl ?_
      exact x_iretz dX5_isLocal_15 rfl (by decide) (by first | (simpa (decide := true) [xb, h2, h7] using hk) | (exfalso; simp_all (decide := true); done))
set_option maxHeartbeats 4000000 in
set_option maxRecDepth 20000 in
theorem c_X5_atBump {σ : xH} {K : Int32 → xH → Prop} (k w h : Int32) (hk : K (fBump k w h) σ) : Evi l (oM ad D cy) mX5_atBump [.int k, .int w, .int h] σ K := by
  refine x_enter (ls := [some (.int k), some (.int w), some (.int h), none]) rfl ?_
  unfold fBump at hk
  simp only [show (¬ h < nI 4) ↔ ¬ h ≤ nI 3 from not_congr (le3_lt4 h).symm] at hk
  refine x_iload_n (i := 1) dX5_atBump_0 rfl rfl ?_
  refine x_iload_n (i := 0) dX5_atBump_1 rfl rfl ?_
  refine x_s1i dX5_atBump_2 okX5_isBus ml_X5_56 (Nat.le_of_ble_eq_true rfl) ⟨by decide, by decide⟩ (Nat.le_of_ble_eq_true rfl) (c_X5_isBus _ ?_)
  refine x_ifeqP (tgt := 12) dX5_atBump_5 rfl (fun h5 => ?_) (fun h5 => ?_)
  · skip
    refine x_bipush (v := nI 8) dX5_atBump_12 (by decide) ?_
    refine x_iload_n (i := 2) dX5_atBump_14 rfl rfl ?_
    refine x_imul dX5_atBump_15 ?_
    refine x_isub dX5_atBump_16 ?_
    refine y_istore_n (i := 3) (ls2 := [_, _, _, _]) dX5_atBump_17 rfl (by decide) rfl rfl ?_
    refine x_iload_n (i := 0) dX5_atBump_18 rfl rfl ?_
    refine x_iconstN (n := 2) dX5_atBump_19 ?_
    refine x_icne (tgt := 33) dX5_atBump_20 rfl (fun h20 => ?_) (fun h20 => ?_)
    · skip
      refine x_iload_n (i := 3) dX5_atBump_33 rfl rfl ?_
      refine x_iconstN (n := 5) dX5_atBump_34 ?_
      refine x_icge (tgt := 42) dX5_atBump_35 rfl (fun h35 => ?_) (fun h35 => ?_)
      · skip
        refine x_iload_n (i := 3) dX5_atBump_42 rfl rfl ?_
        exact x_ireti dX5_atBump_43 rfl (by first | (simpa (decide := true) [xb, h5, h20, h35] using hk) | (exfalso; simp_all (decide := true); done))
      · skip
        refine x_iconstN (n := 5) dX5_atBump_38 ?_
        refine x_goto (tgt := 43) dX5_atBump_39 rfl ?_
        exact x_ireti dX5_atBump_43 rfl (by first | (simpa (decide := true) [xb, h5, h20, h35] using hk) | (exfalso; simp_all (decide := true); done))
    · skip
      refine x_iload_n (i := 2) dX5_atBump_23 rfl rfl ?_
      refine x_iconstN (n := 3) dX5_atBump_24 ?_
      refine x_icle (tgt := 33) dX5_atBump_25 rfl (fun h25 => ?_) (fun h25 => ?_)
      · skip
        refine x_iload_n (i := 3) dX5_atBump_33 rfl rfl ?_
        refine x_iconstN (n := 5) dX5_atBump_34 ?_
        refine x_icge (tgt := 42) dX5_atBump_35 rfl (fun h35 => ?_) (fun h35 => ?_)
        · skip
          refine x_iload_n (i := 3) dX5_atBump_42 rfl rfl ?_
          exact x_ireti dX5_atBump_43 rfl (by first | (simpa (decide := true) [xb, h5, h20, h25, h35] using hk) | (exfalso; simp_all (decide := true); done))
        · skip
          refine x_iconstN (n := 5) dX5_atBump_38 ?_
          refine x_goto (tgt := 43) dX5_atBump_39 rfl ?_
          exact x_ireti dX5_atBump_43 rfl (by first | (simpa (decide := true) [xb, h5, h20, h25, h35] using hk) | (exfalso; simp_all (decide := true); done))
      · skip
        refine x_bipush (v := nI 8) dX5_atBump_28 (by decide) ?_
        refine x_goto (tgt := 43) dX5_atBump_30 rfl ?_
        exact x_ireti dX5_atBump_43 rfl (by first | (simpa (decide := true) [xb, h5, h20, h25] using hk) | (exfalso; simp_all (decide := true); done))
  · skip
    refine x_iconstN (n := 4) dX5_atBump_8 ?_
    refine x_goto (tgt := 14) dX5_atBump_9 rfl ?_
    refine x_iload_n (i := 2) dX5_atBump_14 rfl rfl ?_
    refine x_imul dX5_atBump_15 ?_
    refine x_isub dX5_atBump_16 ?_
    refine y_istore_n (i := 3) (ls2 := [_, _, _, _]) dX5_atBump_17 rfl (by decide) rfl rfl ?_
    refine x_iload_n (i := 0) dX5_atBump_18 rfl rfl ?_
    refine x_iconstN (n := 2) dX5_atBump_19 ?_
    refine x_icne (tgt := 33) dX5_atBump_20 rfl (fun h20 => ?_) (fun h20 => ?_)
    · skip
      refine x_iload_n (i := 3) dX5_atBump_33 rfl rfl ?_
      refine x_iconstN (n := 5) dX5_atBump_34 ?_
      refine x_icge (tgt := 42) dX5_atBump_35 rfl (fun h35 => ?_) (fun h35 => ?_)
      · skip
        refine x_iload_n (i := 3) dX5_atBump_42 rfl rfl ?_
        exact x_ireti dX5_atBump_43 rfl (by first | (simpa (decide := true) [xb, h5, h20, h35] using hk) | (exfalso; simp_all (decide := true); done))
      · skip
        refine x_iconstN (n := 5) dX5_atBump_38 ?_
        refine x_goto (tgt := 43) dX5_atBump_39 rfl ?_
        exact x_ireti dX5_atBump_43 rfl (by first | (simpa (decide := true) [xb, h5, h20, h35] using hk) | (exfalso; simp_all (decide := true); done))
    · skip
      refine x_iload_n (i := 2) dX5_atBump_23 rfl rfl ?_
      refine x_iconstN (n := 3) dX5_atBump_24 ?_
      refine x_icle (tgt := 33) dX5_atBump_25 rfl (fun h25 => ?_) (fun h25 => ?_)
      · skip
        refine x_iload_n (i := 3) dX5_atBump_33 rfl rfl ?_
        refine x_iconstN (n := 5) dX5_atBump_34 ?_
        refine x_icge (tgt := 42) dX5_atBump_35 rfl (fun h35 => ?_) (fun h35 => ?_)
        · skip
          refine x_iload_n (i := 3) dX5_atBump_42 rfl rfl ?_
          exact x_ireti dX5_atBump_43 rfl (by first | (simpa (decide := true) [xb, h5, h20, h25, h35] using hk) | (exfalso; simp_all (decide := true); done))
        · skip
          refine x_iconstN (n := 5) dX5_atBump_38 ?_
          refine x_goto (tgt := 43) dX5_atBump_39 rfl ?_
          exact x_ireti dX5_atBump_43 rfl (by first | (simpa (decide := true) [xb, h5, h20, h25, h35] using hk) | (exfalso; simp_all (decide := true); done))
      · skip
        refine x_bipush (v := nI 8) dX5_atBump_28 (by decide) ?_
        refine x_goto (tgt := 43) dX5_atBump_30 rfl ?_
        exact x_ireti dX5_atBump_43 rfl (by first | (simpa (decide := true) [xb, h5, h20, h25] using hk) | (exfalso; simp_all (decide := true); done))
set_option maxHeartbeats 4000000 in
set_option maxRecDepth 20000 in
theorem c_X5_plainSlow {σ : xH} {K : Int32 → xH → Prop} (k t w h g : Int32) (ht : t = nI 1 ∨ t = nI 2 ∨ t = nI 3 ∨ t = nI 4) (hk : K (fPlain k w t h g) σ) : Evi l (oM ad D cy) mX5_plainSlow [.int k, .int t, .int w, .int h, .int g] σ K := by
  refine x_enter (ls := [some (.int k), some (.int t), some (.int w), some (.int h), some (.int g)]) rfl ?_
  unfold fPlain at hk
  simp only [show (¬ g < nI 21) ↔ ¬ g ≤ nI 20 from not_congr (le20_lt21 g).symm] at hk
  refine x_iload_n (i := 1) dX5_plainSlow_0 rfl rfl ?_
  refine x_tsw3 (nI 1) (nI 2) (nI 3) 28 35 48 63 dX5_plainSlow_1 (by decide) (by decide) (fun h1 => ?_) (fun h1 => ?_) (fun h1 => ?_) (fun h1_1 h1_2 h1_3 => ?_)
  · skip
    refine x_iload_n (i := 0) dX5_plainSlow_28 rfl rfl ?_
    refine x_iload_n (i := 2) dX5_plainSlow_29 rfl rfl ?_
    refine x_iload_n (i := 3) dX5_plainSlow_30 rfl rfl ?_
    refine x_s3i dX5_plainSlow_31 okX5_atBump ml_X5_60 (Nat.le_of_ble_eq_true rfl) ⟨by decide, by decide⟩ (Nat.le_of_ble_eq_true rfl) (c_X5_atBump _ _ _ ?_)
    exact x_ireti dX5_plainSlow_34 rfl (by first | (simpa (decide := true) [xb, h1] using hk) | (exfalso; simp_all (decide := true); done))
  · skip
    refine x_iload_n (i := 0) dX5_plainSlow_35 rfl rfl ?_
    refine x_iconstN (n := 4) dX5_plainSlow_36 ?_
    refine x_icne (tgt := 44) dX5_plainSlow_37 rfl (fun h37 => ?_) (fun h37 => ?_)
    · skip
      refine x_iload_n (i := 2) dX5_plainSlow_44 rfl rfl ?_
      refine x_iconstN (n := 2) dX5_plainSlow_45 ?_
      refine x_idiv dX5_plainSlow_46 (by decide) ?_
      exact x_ireti dX5_plainSlow_47 rfl (by first | (simpa (decide := true) [xb, h1, h37] using hk) | (exfalso; simp_all (decide := true); done))
    · skip
      refine x_iload_n (i := 2) dX5_plainSlow_40 rfl rfl ?_
      refine x_goto (tgt := 47) dX5_plainSlow_41 rfl ?_
      exact x_ireti dX5_plainSlow_47 rfl (by first | (simpa (decide := true) [xb, h1, h37] using hk) | (exfalso; simp_all (decide := true); done))
  · skip
    refine x_iload_n (i := 0) dX5_plainSlow_48 rfl rfl ?_
    refine x_s1i dX5_plainSlow_49 okX5_isLocal ml_X5_64 (Nat.le_of_ble_eq_true rfl) ⟨by decide, by decide⟩ (Nat.le_of_ble_eq_true rfl) (c_X5_isLocal _ ?_)
    refine x_ifeqP (tgt := 59) dX5_plainSlow_52 rfl (fun h52 => ?_) (fun h52 => ?_)
    · skip
      refine x_iload_n (i := 2) dX5_plainSlow_59 rfl rfl ?_
      refine x_iconstN (n := 5) dX5_plainSlow_60 ?_
      refine x_isub dX5_plainSlow_61 ?_
      exact x_ireti dX5_plainSlow_62 rfl (by first | (simpa (decide := true) [xb, h1, h52] using hk) | (exfalso; simp_all (decide := true); done))
    · skip
      refine x_iload_n (i := 2) dX5_plainSlow_55 rfl rfl ?_
      refine x_goto (tgt := 62) dX5_plainSlow_56 rfl ?_
      exact x_ireti dX5_plainSlow_62 rfl (by first | (simpa (decide := true) [xb, h1, h52] using hk) | (exfalso; simp_all (decide := true); done))
  · skip
    have ht4 : t = nI 4 := ht.elim (fun z => absurd z h1_1) (fun z => z.elim (fun z => absurd z h1_2) (fun z => z.elim (fun z => absurd z h1_3) id))
    subst ht4
    refine x_iload_n (i := 0) dX5_plainSlow_63 rfl rfl ?_
    refine x_s1i dX5_plainSlow_64 okX5_isLocal ml_X5_64 (Nat.le_of_ble_eq_true rfl) ⟨by decide, by decide⟩ (Nat.le_of_ble_eq_true rfl) (c_X5_isLocal _ ?_)
    refine x_ifneP (tgt := 77) dX5_plainSlow_67 rfl (fun h67 => ?_) (fun h67 => ?_)
    · skip
      refine x_iload_n (i := 2) dX5_plainSlow_77 rfl rfl ?_
      refine x_goto (tgt := 86) dX5_plainSlow_78 rfl ?_
      exact x_ireti dX5_plainSlow_86 rfl (by first | (simpa (decide := true) [xb, h1_1, h1_2, h1_3, h67] using hk) | (rcases h67 with z | z <;> simpa (decide := true) [z] using hk) | (exfalso; simp_all (decide := true); done))
    · skip
      refine x_iload (i := 4) dX5_plainSlow_70 rfl ?_
      refine x_bipush (v := nI 20) dX5_plainSlow_72 (by decide) ?_
      refine x_icle (tgt := 81) dX5_plainSlow_74 rfl (fun h74 => ?_) (fun h74 => ?_)
      · skip
        refine x_iload_n (i := 2) dX5_plainSlow_81 rfl rfl ?_
        refine x_iconstN (n := 3) dX5_plainSlow_82 ?_
        refine x_imul dX5_plainSlow_83 ?_
        refine x_iconstN (n := 4) dX5_plainSlow_84 ?_
        refine x_idiv dX5_plainSlow_85 (by decide) ?_
        exact x_ireti dX5_plainSlow_86 rfl (by first | (simpa (decide := true) [xb, h1_1, h1_2, h1_3, h67, h74] using hk) | (rcases h67 with z | z <;> simpa (decide := true) [z] using hk) | (exfalso; simp_all (decide := true); done))
      · skip
        refine x_iload_n (i := 2) dX5_plainSlow_77 rfl rfl ?_
        refine x_goto (tgt := 86) dX5_plainSlow_78 rfl ?_
        exact x_ireti dX5_plainSlow_86 rfl (by first | (simpa (decide := true) [xb, h1_1, h1_2, h1_3, h67, h74] using hk) | (rcases h67 with z | z <;> simpa (decide := true) [z] using hk) | (exfalso; simp_all (decide := true); done))
set_option maxHeartbeats 4000000 in
set_option maxRecDepth 20000 in
theorem c_X5_slowsTo {σ : xH} {K : Int32 → xH → Prop} (k t w h g : Int32) (ht : t = nI 1 ∨ t = nI 2 ∨ t = nI 3 ∨ t = nI 4) (hk : K (fSlow k w t h g) σ) : Evi l (oM ad D cy) mX5_slowsTo [.int k, .int t, .int w, .int h, .int g] σ K := by
  refine x_enter (ls := [some (.int k), some (.int t), some (.int w), some (.int h), some (.int g), none]) rfl ?_
  refine x_iload_n (i := 0) dX5_slowsTo_0 rfl rfl ?_
  refine x_iload_n (i := 1) dX5_slowsTo_1 rfl rfl ?_
  refine x_iload_n (i := 2) dX5_slowsTo_2 rfl rfl ?_
  refine x_iload_n (i := 3) dX5_slowsTo_3 rfl rfl ?_
  refine x_iload (i := 4) dX5_slowsTo_4 rfl ?_
  refine x_s5i dX5_slowsTo_6 okX5_plainSlow ml_X5_67 (Nat.le_of_ble_eq_true rfl) ⟨by decide, by decide⟩ (Nat.le_of_ble_eq_true rfl) (c_X5_plainSlow _ _ _ _ _ ht ?_)
  refine y_istore (i := 5) (ls2 := [_, _, _, _, _, _]) dX5_slowsTo_9 (by decide) rfl rfl ?_
  refine x_iload_n (i := 0) dX5_slowsTo_11 rfl rfl ?_
  refine x_iconstN (n := 5) dX5_slowsTo_12 ?_
  refine x_icne (tgt := 27) dX5_slowsTo_13 rfl (fun h13 => ?_) (fun h13 => ?_)
  · skip
    refine x_iload (i := 5) dX5_slowsTo_27 rfl ?_
    exact x_ireti dX5_slowsTo_29 rfl (by unfold fSlow at hk; first | (rw [if_pos h13] at hk; exact hk) | (rw [if_neg h13] at hk; exact hk))
  · skip
    refine x_iload_n (i := 2) dX5_slowsTo_16 rfl rfl ?_
    refine x_iload (i := 5) dX5_slowsTo_17 rfl ?_
    refine x_iconstN (n := 5) dX5_slowsTo_19 ?_
    refine x_iadd dX5_slowsTo_20 ?_
    refine x_s2i dX5_slowsTo_21 okX5_less ml_X5_71 (Nat.le_of_ble_eq_true rfl) ⟨by decide, by decide⟩ (Nat.le_of_ble_eq_true rfl) (c_X5_less _ _ ?_)
    refine x_goto (tgt := 29) dX5_slowsTo_24 rfl ?_
    exact x_ireti dX5_slowsTo_29 rfl (by unfold fSlow at hk; first | (rw [if_pos h13] at hk; exact hk) | (rw [if_neg h13] at hk; exact hk))
set_option maxHeartbeats 4000000 in
set_option maxRecDepth 20000 in
theorem c_X5_hurriesOf {σ : xH} {K : Int32 → xH → Prop} (k : Int32) (hk : K (fHur k) σ) : Evi l (oM ad D cy) mX5_hurriesOf [.int k] σ K := by
  refine x_enter (ls := [some (.int k)]) rfl ?_
  refine x_iload_n (i := 0) dX5_hurriesOf_0 rfl rfl ?_
  refine x_iconstN (n := 1) dX5_hurriesOf_1 ?_
  refine x_iceq (tgt := 10) dX5_hurriesOf_2 rfl (fun h2 => ?_) (fun h2 => ?_)
  · skip
    refine x_bipush (v := nI 6) dX5_hurriesOf_10 (by decide) ?_
    refine x_goto (tgt := 27) dX5_hurriesOf_12 rfl ?_
    exact x_ireti dX5_hurriesOf_27 rfl (by first | (simpa (decide := true) [fHur, h2] using hk) | (exfalso; simp_all (decide := true); done))
  · skip
    refine x_iload_n (i := 0) dX5_hurriesOf_5 rfl rfl ?_
    refine x_iconstN (n := 2) dX5_hurriesOf_6 ?_
    refine x_icne (tgt := 15) dX5_hurriesOf_7 rfl (fun h7 => ?_) (fun h7 => ?_)
    · skip
      refine x_iload_n (i := 0) dX5_hurriesOf_15 rfl rfl ?_
      refine x_iconstN (n := 5) dX5_hurriesOf_16 ?_
      refine x_icne (tgt := 25) dX5_hurriesOf_17 rfl (fun h17 => ?_) (fun h17 => ?_)
      · skip
        refine x_bipush (v := nI 12) dX5_hurriesOf_25 (by decide) ?_
        exact x_ireti dX5_hurriesOf_27 rfl (by first | (simpa (decide := true) [fHur, h2, h7, h17] using hk) | (exfalso; simp_all (decide := true); done))
      · skip
        refine x_bipush (v := nI 22) dX5_hurriesOf_20 (by decide) ?_
        refine x_goto (tgt := 27) dX5_hurriesOf_22 rfl ?_
        exact x_ireti dX5_hurriesOf_27 rfl (by first | (simpa (decide := true) [fHur, h2, h7, h17] using hk) | (exfalso; simp_all (decide := true); done))
    · skip
      refine x_bipush (v := nI 6) dX5_hurriesOf_10 (by decide) ?_
      refine x_goto (tgt := 27) dX5_hurriesOf_12 rfl ?_
      exact x_ireti dX5_hurriesOf_27 rfl (by first | (simpa (decide := true) [fHur, h2, h7] using hk) | (exfalso; simp_all (decide := true); done))
set_option maxHeartbeats 4000000 in
set_option maxRecDepth 20000 in
theorem c_X5_shakesAt {σ : xH} {K : Int32 → xH → Prop} (k v h : Int32) (hk : K (fShake k v h) σ) : Evi l (oM ad D cy) mX5_shakesAt [.int k, .int v, .int h] σ K := by
  refine x_enter (ls := [some (.int k), some (.int v), some (.int h), none]) rfl ?_
  refine x_iload_n (i := 1) dX5_shakesAt_0 rfl rfl ?_
  refine x_iload_n (i := 2) dX5_shakesAt_1 rfl rfl ?_
  refine x_imul dX5_shakesAt_2 ?_
  refine x_bipush (v := nI 10) dX5_shakesAt_3 (by decide) ?_
  refine x_idiv dX5_shakesAt_5 (by decide) ?_
  refine y_istore_n (i := 3) (ls2 := [_, _, _, _]) dX5_shakesAt_6 rfl (by decide) rfl rfl ?_
  refine x_iload_n (i := 0) dX5_shakesAt_7 rfl rfl ?_
  refine x_tsw5 (nI 1) (nI 2) (nI 3) (nI 4) (nI 5) 44 48 56 44 52 56 dX5_shakesAt_8 (by decide) (by decide) (fun h8 => ?_) (fun h8 => ?_) (fun h8 => ?_) (fun h8 => ?_) (fun h8 => ?_) (fun h8_1 h8_2 h8_3 h8_4 h8_5 => ?_)
  · skip
    refine x_iload_n (i := 3) dX5_shakesAt_44 rfl rfl ?_
    refine x_iload_n (i := 2) dX5_shakesAt_45 rfl rfl ?_
    refine x_iadd dX5_shakesAt_46 ?_
    exact x_ireti dX5_shakesAt_47 rfl (by first | (simpa (decide := true) [fShake, h8] using hk) | (exfalso; simp_all (decide := true); done))
  · skip
    refine x_iconstN (n := 2) dX5_shakesAt_48 ?_
    refine x_iload_n (i := 3) dX5_shakesAt_49 rfl rfl ?_
    refine x_imul dX5_shakesAt_50 ?_
    exact x_ireti dX5_shakesAt_51 rfl (by first | (simpa (decide := true) [fShake, h8] using hk) | (exfalso; simp_all (decide := true); done))
  · skip
    refine x_iload_n (i := 3) dX5_shakesAt_56 rfl rfl ?_
    exact x_ireti dX5_shakesAt_57 rfl (by first | (simpa (decide := true) [fShake, h8] using hk) | (exfalso; simp_all (decide := true); done))
  · skip
    refine x_iload_n (i := 3) dX5_shakesAt_44 rfl rfl ?_
    refine x_iload_n (i := 2) dX5_shakesAt_45 rfl rfl ?_
    refine x_iadd dX5_shakesAt_46 ?_
    exact x_ireti dX5_shakesAt_47 rfl (by first | (simpa (decide := true) [fShake, h8] using hk) | (exfalso; simp_all (decide := true); done))
  · skip
    refine x_iload_n (i := 3) dX5_shakesAt_52 rfl rfl ?_
    refine x_iconstN (n := 1) dX5_shakesAt_53 ?_
    refine x_iadd dX5_shakesAt_54 ?_
    exact x_ireti dX5_shakesAt_55 rfl (by first | (simpa (decide := true) [fShake, h8] using hk) | (exfalso; simp_all (decide := true); done))
  · skip
    refine x_iload_n (i := 3) dX5_shakesAt_56 rfl rfl ?_
    exact x_ireti dX5_shakesAt_57 rfl (by first | (simpa (decide := true) [fShake, h8_1, h8_2, h8_3, h8_4, h8_5] using hk) | (exfalso; simp_all (decide := true); done))
set_option maxHeartbeats 4000000 in
set_option maxRecDepth 20000 in
theorem c_X5_get {σ : xH} {K : Int32 → xH → Prop} {d f : Nat} (hd : d < 8) (hf : f < 3) (hk : K (σ.1 1 (123 + 3 * d + f)) σ) : Evi l (oM ad D cy) mX5_get [.ref 0, .int (nI d), .int (nI f)] σ K := by
  refine x_enter (ls := [some (.ref 0), some (.int (nI d)), some (.int (nI f))]) rfl ?_
  refine x_aload_n (i := 0) dX5_get_0 rfl rfl ?_
  refine x_getr (i := 0) dX5_get_1 rfl rfl rfl (by decide) fl_X5_9 inX5 ?_
  refine x_bipush (v := nI 123) dX5_get_4 (by decide) ?_
  refine x_iconstN (n := 3) dX5_get_6 ?_
  refine x_iload_n (i := 1) dX5_get_7 rfl rfl ?_
  refine x_imulN dX5_get_8 ?_
  refine x_iaddN dX5_get_9 ?_
  refine x_iload_n (i := 2) dX5_get_10 rfl rfl ?_
  refine x_iaddN dX5_get_11 ?_
  refine x_ialdN dX5_get_12 rfl (by omega) (by decide) ?_
  exact x_ireti dX5_get_13 rfl hk
set_option maxHeartbeats 4000000 in
set_option maxRecDepth 20000 in
theorem c_X5_puts {σ : xH} {K : xH → Prop} {d f : Nat} (hd : d < 8) (hf : f < 3) (v : Int32) (hk : K (xpi σ 1 (123 + 3 * d + f) v)) : Evv l (oM ad D cy) mX5_puts [.ref 0, .int (nI d), .int (nI f), .int v] σ K := by
  refine x_enter (ls := [some (.ref 0), some (.int (nI d)), some (.int (nI f)), some (.int v)]) rfl ?_
  refine x_aload_n (i := 0) dX5_puts_0 rfl rfl ?_
  refine x_getr (i := 0) dX5_puts_1 rfl rfl rfl (by decide) fl_X5_9 inX5 ?_
  refine x_bipush (v := nI 123) dX5_puts_4 (by decide) ?_
  refine x_iconstN (n := 3) dX5_puts_6 ?_
  refine x_iload_n (i := 1) dX5_puts_7 rfl rfl ?_
  refine x_imulN dX5_puts_8 ?_
  refine x_iaddN dX5_puts_9 ?_
  refine x_iload_n (i := 2) dX5_puts_10 rfl rfl ?_
  refine x_iaddN dX5_puts_11 ?_
  refine x_iload_n (i := 3) dX5_puts_12 rfl rfl ?_
  refine x_iastN dX5_puts_13 rfl (by omega) (by decide) ?_
  exact x_retv dX5_puts_14 rfl hk
/-- the model's numbers behind a ride through a street -/
def gq (σ : xH) (T : Tw) (k w : Int32) (r i : Nat) : Prop := (∀ j, j < i → σ.1 5 j = pP T k w r (j + 1)) ∧ σ.1 0 6 = fT k w (tIn T) (fun i => tTh T (r * 20 + i)) (fun i => tAg T (r * 20 + i)) i ∧ σ.1 0 7 = fS k w (tIn T) (fun i => tTh T (r * 20 + i)) (fun i => tAg T (r * 20 + i)) i
theorem gq_step {σ : xH} {T : Tw} {k w : Int32} {r i : Nat} (h : gq σ T k w r i) (hne : ¬ pP T k w r (i + 1) ≤ 0) {x : Int32} (hx : fS k w (tIn T) (fun i => tTh T (r * 20 + i)) (fun i => tAg T (r * 20 + i)) i + x = fS k w (tIn T) (fun i => tTh T (r * 20 + i)) (fun i => tAg T (r * 20 + i)) (i + 1)) : gq (xpi (xpi (xpi σ 5 i (pP T k w r (i + 1))) 0 6 (fT k w (tIn T) (fun i => tTh T (r * 20 + i)) (fun i => tAg T (r * 20 + i)) i + nI 1227 / pP T k w r (i + 1))) 0 7 (fS k w (tIn T) (fun i => tTh T (r * 20 + i)) (fun i => tAg T (r * 20 + i)) i + x)) T k w r (i + 1) := by
  obtain ⟨h1, h2, h3⟩ := h
  refine ⟨fun j hj => ?_, ?_, ?_⟩
  · simp (disch := omega) only [xui_o, xui_s]
    by_cases e : j = i
    · subst e; simp [upd]
    · simp only [upd, if_neg e]; exact h1 j (by omega)
  · have e : fT k w (tIn T) (fun i => tTh T (r * 20 + i)) (fun i => tAg T (r * 20 + i)) (i + 1) = fT k w (tIn T) (fun i => tTh T (r * 20 + i)) (fun i => tAg T (r * 20 + i)) i + nI 1227 / pP T k w r (i + 1) := if_neg hne
    rw [e]
    simp [xui, upd]
  · rw [xui_s]
    simp only [upd, if_true]
    exact hx
theorem fq_step {σ0 σ : xH} (h : fq σ0 σ) {i : Nat} {a b c : Int32} : fq σ0 (xpi (xpi (xpi σ 5 i a) 0 6 b) 0 7 c) := by
  refine fq_tr h ⟨rfl, fun q h0 h5 => ?_, fun j h6 h7 => ?_⟩
  · simp (disch := omega) only [xui_o]
  · simp [xui, upd, h6, h7]
set_option maxHeartbeats 4000000 in
set_option maxRecDepth 20000 in
theorem l_X5_goesThrough {K : xH → Prop} {σ0 : xH} {T : Tw} (hO : tOk T) {k w r : Nat} (hk6 : k < 6) (h10 : 10 ≤ w) (h80 : w ≤ 80) (hr : r < 3) (hk : ∀ τ, gq τ T (nI k) (nI w) r 20 → fq σ0 τ → K τ) : ∀ (n i : Nat) (σ : xH), i + n = 20 → (ms σ 1 T) → (gq σ T (nI k) (nI w) r i) → (fq σ0 σ) → Ex l (oM ad D cy) mX5_goesThrough 13 [some (.ref 0), some (.int (nI k)), some (.int (nI w)), some (.int (nI r)), some (.int (nI i)), none, none, none] [] σ (xQv K) := by
  intro n
  induction n with
  | zero =>
    intro i σ hi hs hq hf
    have hi : i = 20 := by omega
    subst hi
    refine x_iload (i := 4) dX5_goesThrough_13 rfl ?_
    refine x_bipush (v := nI 20) dX5_goesThrough_15 (by decide) ?_
    refine x_icgeN (tgt := 176) (by omega) (by omega) dX5_goesThrough_17 rfl (fun h17 => ?_) (fun h17 => ?_)
    · skip
      exact x_retv dX5_goesThrough_176 rfl (hk σ hq hf)
    · exact absurd h17 (by omega)
  | succ n ih =>
    intro i σ hi hs hq hf
    obtain ⟨hne, hne0⟩ := pP_pos hO hk6 h10 h80 hr (i := i + 1) (by omega)
    refine x_iload (i := 4) dX5_goesThrough_13 rfl ?_
    refine x_bipush (v := nI 20) dX5_goesThrough_15 (by decide) ?_
    refine x_icgeN (tgt := 176) (by omega) (by omega) dX5_goesThrough_17 rfl (fun h17 => ?_) (fun h17 => ?_)
    · exact absurd h17 (by omega)
    · skip
      refine x_bipush (v := nI 20) dX5_goesThrough_20 (by decide) ?_
      refine x_iload_n (i := 3) dX5_goesThrough_22 rfl rfl ?_
      refine x_imulN dX5_goesThrough_23 ?_
      refine x_iload (i := 4) dX5_goesThrough_24 rfl ?_
      refine x_iaddN dX5_goesThrough_26 ?_
      refine y_istore (i := 5) (ls2 := [_, _, _, _, _, _, _, _]) dX5_goesThrough_27 (by decide) rfl rfl ?_
      refine x_aload_n (i := 0) dX5_goesThrough_29 rfl rfl ?_
      refine x_getr (i := 0) dX5_goesThrough_30 rfl rfl rfl (by decide) fl_X5_9 inX5 ?_
      refine x_iconstN (n := 3) dX5_goesThrough_33 ?_
      refine x_iload (i := 5) dX5_goesThrough_34 rfl ?_
      refine x_iaddN dX5_goesThrough_36 ?_
      refine x_ialdE dX5_goesThrough_37 rfl (by omega) (by decide) (show _ = tTh T (r * 20 + i) by rw [show 3 + (20 * r + i) = 3 + (r * 20 + i) by omega]; exact ms_th hs (by omega)) ?_
      refine y_istore (i := 6) (ls2 := [_, _, _, _, _, _, _, _]) dX5_goesThrough_38 (by decide) rfl rfl ?_
      refine x_iload (i := 4) dX5_goesThrough_40 rfl ?_
      refine x_ifne (tgt := 49) dX5_goesThrough_42 rfl (fun h42 => ?_) (fun h42 => ?_)
      · skip
        have hi0 : 0 < i := Nat.pos_of_ne_zero (fun z => h42 (by rw [z]; rfl))
        refine x_iload_n (i := 2) dX5_goesThrough_49 rfl rfl ?_
        refine x_aload_n (i := 0) dX5_goesThrough_50 rfl rfl ?_
        refine x_getr (i := 5) dX5_goesThrough_51 rfl rfl rfl (by decide) fl_X5_22 inX5 ?_
        refine x_iload (i := 4) dX5_goesThrough_54 rfl ?_
        refine x_iconstN (n := 1) dX5_goesThrough_56 ?_
        refine x_isubN (by omega) dX5_goesThrough_57 ?_
        refine x_ialdE dX5_goesThrough_58 rfl (by omega) (by decide) (show _ = pP T (nI k) (nI w) r i by rw [hq.1 (i - 1) (by omega)]; congr 1; omega) ?_
        refine x_iload_n (i := 1) dX5_goesThrough_59 rfl rfl ?_
        refine x_s1i dX5_goesThrough_60 okX5_hurriesOf ml_X5_82 (Nat.le_of_ble_eq_true rfl) ⟨by decide, by decide⟩ (Nat.le_of_ble_eq_true rfl) (c_X5_hurriesOf _ ?_)
        refine x_iadd dX5_goesThrough_63 ?_
        refine x_s2i dX5_goesThrough_64 okX5_less ml_X5_71 (Nat.le_of_ble_eq_true rfl) ⟨by decide, by decide⟩ (Nat.le_of_ble_eq_true rfl) (c_X5_less _ _ ?_)
        refine x_top (top_less _ _ _) ?_
        refine y_istore (i := 7) (ls2 := [_, _, _, _, _, _, _, _]) dX5_goesThrough_67 (by decide) rfl rfl ?_
        refine x_aload_n (i := 0) dX5_goesThrough_69 rfl rfl ?_
        refine x_getr (i := 5) dX5_goesThrough_70 rfl rfl rfl (by decide) fl_X5_22 inX5 ?_
        refine x_iload (i := 4) dX5_goesThrough_73 rfl ?_
        refine x_iload (i := 6) dX5_goesThrough_75 rfl ?_
        refine x_ifne (tgt := 85) dX5_goesThrough_77 rfl (fun h77 => ?_) (fun h77 => ?_)
        · skip
          obtain ⟨x, hx4, ex⟩ := hO.2.2.2.1 (r * 20 + i) (by omega)
          have ht : tTh T (r * 20 + i) = nI 1 ∨ tTh T (r * 20 + i) = nI 2 ∨ tTh T (r * 20 + i) = nI 3 ∨ tTh T (r * 20 + i) = nI 4 := by
            rw [ex] at h77 ⊢
            match x, hx4, h77 with
            | 0, _, h => exact absurd rfl h
            | 1, _, _ => exact Or.inl rfl
            | 2, _, _ => exact Or.inr (Or.inl rfl)
            | 3, _, _ => exact Or.inr (Or.inr (Or.inl rfl))
            | 4, _, _ => exact Or.inr (Or.inr (Or.inr rfl))
          refine x_iload (i := 7) dX5_goesThrough_85 rfl ?_
          refine x_iload_n (i := 1) dX5_goesThrough_87 rfl rfl ?_
          refine x_iload (i := 6) dX5_goesThrough_88 rfl ?_
          refine x_iload_n (i := 2) dX5_goesThrough_90 rfl rfl ?_
          refine x_aload_n (i := 0) dX5_goesThrough_91 rfl rfl ?_
          refine x_getr (i := 0) dX5_goesThrough_92 rfl rfl rfl (by decide) fl_X5_9 inX5 ?_
          refine x_iconstN (n := 1) dX5_goesThrough_95 ?_
          refine x_ialdE dX5_goesThrough_96 rfl (by omega) (by decide) (ms_in hs) ?_
          refine x_aload_n (i := 0) dX5_goesThrough_97 rfl rfl ?_
          refine x_getr (i := 0) dX5_goesThrough_98 rfl rfl rfl (by decide) fl_X5_9 inX5 ?_
          refine x_bipush (v := nI 63) dX5_goesThrough_101 (by decide) ?_
          refine x_iload (i := 5) dX5_goesThrough_103 rfl ?_
          refine x_iaddN dX5_goesThrough_105 ?_
          refine x_ialdE dX5_goesThrough_106 rfl (by omega) (by decide) (show _ = tAg T (r * 20 + i) by rw [show 63 + (20 * r + i) = 63 + (r * 20 + i) by omega]; exact ms_ag hs (by omega)) ?_
          refine x_s5i dX5_goesThrough_107 okX5_slowsTo ml_X5_86 (Nat.le_of_ble_eq_true rfl) ⟨by decide, by decide⟩ (Nat.le_of_ble_eq_true rfl) (c_X5_slowsTo _ _ _ _ _ ht ?_)
          refine x_s2i dX5_goesThrough_110 okX5_less ml_X5_71 (Nat.le_of_ble_eq_true rfl) ⟨by decide, by decide⟩ (Nat.le_of_ble_eq_true rfl) (c_X5_less _ _ ?_)
          refine x_top (y := pP T (nI k) (nI w) r (i + 1)) ((lt_or_eq_ite _ _).trans (if_neg h77).symm) ?_
          refine x_iastN dX5_goesThrough_113 rfl (by omega) (by decide) ?_
          refine x_aload_n (i := 0) dX5_goesThrough_114 rfl rfl ?_
          refine x_dup dX5_goesThrough_115 rfl ?_
          refine x_getiE (i := 6) dX5_goesThrough_116 rfl rfl rfl (by decide) fl_X5_75 inX5 (show _ = fT (nI k) (nI w) (tIn T) (fun i => tTh T (r * 20 + i)) (fun i => tAg T (r * 20 + i)) i by simp (disch := omega) only [xui_o]; exact hq.2.1) ?_
          refine x_sipush (v := nI 1227) dX5_goesThrough_119 (by decide) ?_
          refine x_aload_n (i := 0) dX5_goesThrough_122 rfl rfl ?_
          refine x_getr (i := 5) dX5_goesThrough_123 rfl rfl rfl (by decide) fl_X5_22 inX5 ?_
          refine x_iload (i := 4) dX5_goesThrough_126 rfl ?_
          refine x_ialdE dX5_goesThrough_128 rfl (by omega) (by decide) (show _ = pP T (nI k) (nI w) r (i + 1) by simp [xui, upd]) ?_
          refine x_idiv dX5_goesThrough_129 hne0 ?_
          refine x_iadd dX5_goesThrough_130 ?_
          refine x_puti (i := 6) (ty := .int) dX5_goesThrough_131 rfl rfl rfl (by decide) fl_X5_75 inX5 tyX5_ok nmX5 rfl rfl rfl rfl ?_
          refine x_aload_n (i := 0) dX5_goesThrough_134 rfl rfl ?_
          refine x_dup dX5_goesThrough_135 rfl ?_
          refine x_getiE (i := 7) dX5_goesThrough_136 rfl rfl rfl (by decide) fl_X5_79 inX5 (show _ = fS (nI k) (nI w) (tIn T) (fun i => tTh T (r * 20 + i)) (fun i => tAg T (r * 20 + i)) i by simp (disch := omega) [xui_o, xui_s, upd]; exact hq.2.2) ?_
          refine x_iload (i := 6) dX5_goesThrough_139 rfl ?_
          refine x_iconstN (n := 1) dX5_goesThrough_141 ?_
          refine x_icne (tgt := 165) dX5_goesThrough_142 rfl (fun h142 => ?_) (fun h142 => ?_)
          · skip
            refine x_iconstN (n := 0) dX5_goesThrough_165 ?_
            refine x_iadd dX5_goesThrough_166 ?_
            refine x_puti (i := 7) (ty := .int) dX5_goesThrough_167 rfl rfl rfl (by decide) fl_X5_79 inX5 tyX5_ok nmX5 rfl rfl rfl rfl ?_
            refine y_iincN (i := 4) (ls2 := [_, _, _, _, _, _, _, _]) dX5_goesThrough_170 rfl (by decide) rfl rfl ?_
            refine x_goto (tgt := 13) dX5_goesThrough_173 rfl ?_
            exact x_mask [true, true, true, true, true, false, false, false] <| ih (i + 1) _ (by omega) (ms_keep hs (fun q _ => by simp (disch := omega) only [xui_o])) (gq_step hq hne (by first | exact (if_pos h142).symm | (rw [nI_0, Int32.add_zero]; exact (if_neg h142).symm))) (fq_step hf)
          · skip
            refine x_iload_n (i := 1) dX5_goesThrough_145 rfl rfl ?_
            refine x_aload_n (i := 0) dX5_goesThrough_146 rfl rfl ?_
            refine x_getr (i := 5) dX5_goesThrough_147 rfl rfl rfl (by decide) fl_X5_22 inX5 ?_
            refine x_iload (i := 4) dX5_goesThrough_150 rfl ?_
            refine x_ialdE dX5_goesThrough_152 rfl (by omega) (by decide) (show _ = pP T (nI k) (nI w) r (i + 1) by simp (disch := omega) [xui_o, xui_s, upd]) ?_
            refine x_aload_n (i := 0) dX5_goesThrough_153 rfl rfl ?_
            refine x_getr (i := 0) dX5_goesThrough_154 rfl rfl rfl (by decide) fl_X5_9 inX5 ?_
            refine x_iconstN (n := 1) dX5_goesThrough_157 ?_
            refine x_ialdE dX5_goesThrough_158 rfl (by omega) (by decide) (show _ = tIn T by simp (disch := omega) only [xui_o]; exact ms_in hs) ?_
            refine x_s3i dX5_goesThrough_159 okX5_shakesAt ml_X5_89 (Nat.le_of_ble_eq_true rfl) ⟨by decide, by decide⟩ (Nat.le_of_ble_eq_true rfl) (c_X5_shakesAt _ _ _ ?_)
            refine x_goto (tgt := 166) dX5_goesThrough_162 rfl ?_
            refine x_iadd dX5_goesThrough_166 ?_
            refine x_puti (i := 7) (ty := .int) dX5_goesThrough_167 rfl rfl rfl (by decide) fl_X5_79 inX5 tyX5_ok nmX5 rfl rfl rfl rfl ?_
            refine y_iincN (i := 4) (ls2 := [_, _, _, _, _, _, _, _]) dX5_goesThrough_170 rfl (by decide) rfl rfl ?_
            refine x_goto (tgt := 13) dX5_goesThrough_173 rfl ?_
            exact x_mask [true, true, true, true, true, false, false, false] <| ih (i + 1) _ (by omega) (ms_keep hs (fun q _ => by simp (disch := omega) only [xui_o])) (gq_step hq hne (by first | exact (if_pos h142).symm | (rw [nI_0, Int32.add_zero]; exact (if_neg h142).symm))) (fq_step hf)
        · skip
          refine x_iload (i := 7) dX5_goesThrough_80 rfl ?_
          refine x_goto (tgt := 113) dX5_goesThrough_82 rfl ?_
          refine x_top (y := pP T (nI k) (nI w) r (i + 1)) (if_pos h77).symm ?_
          refine x_iastN dX5_goesThrough_113 rfl (by omega) (by decide) ?_
          refine x_aload_n (i := 0) dX5_goesThrough_114 rfl rfl ?_
          refine x_dup dX5_goesThrough_115 rfl ?_
          refine x_getiE (i := 6) dX5_goesThrough_116 rfl rfl rfl (by decide) fl_X5_75 inX5 (show _ = fT (nI k) (nI w) (tIn T) (fun i => tTh T (r * 20 + i)) (fun i => tAg T (r * 20 + i)) i by simp (disch := omega) only [xui_o]; exact hq.2.1) ?_
          refine x_sipush (v := nI 1227) dX5_goesThrough_119 (by decide) ?_
          refine x_aload_n (i := 0) dX5_goesThrough_122 rfl rfl ?_
          refine x_getr (i := 5) dX5_goesThrough_123 rfl rfl rfl (by decide) fl_X5_22 inX5 ?_
          refine x_iload (i := 4) dX5_goesThrough_126 rfl ?_
          refine x_ialdE dX5_goesThrough_128 rfl (by omega) (by decide) (show _ = pP T (nI k) (nI w) r (i + 1) by simp [xui, upd]) ?_
          refine x_idiv dX5_goesThrough_129 hne0 ?_
          refine x_iadd dX5_goesThrough_130 ?_
          refine x_puti (i := 6) (ty := .int) dX5_goesThrough_131 rfl rfl rfl (by decide) fl_X5_75 inX5 tyX5_ok nmX5 rfl rfl rfl rfl ?_
          refine x_aload_n (i := 0) dX5_goesThrough_134 rfl rfl ?_
          refine x_dup dX5_goesThrough_135 rfl ?_
          refine x_getiE (i := 7) dX5_goesThrough_136 rfl rfl rfl (by decide) fl_X5_79 inX5 (show _ = fS (nI k) (nI w) (tIn T) (fun i => tTh T (r * 20 + i)) (fun i => tAg T (r * 20 + i)) i by simp (disch := omega) [xui_o, xui_s, upd]; exact hq.2.2) ?_
          refine x_iload (i := 6) dX5_goesThrough_139 rfl ?_
          refine x_iconstN (n := 1) dX5_goesThrough_141 ?_
          refine x_icne (tgt := 165) dX5_goesThrough_142 rfl (fun h142 => ?_) (fun h142 => ?_)
          · skip
            refine x_iconstN (n := 0) dX5_goesThrough_165 ?_
            refine x_iadd dX5_goesThrough_166 ?_
            refine x_puti (i := 7) (ty := .int) dX5_goesThrough_167 rfl rfl rfl (by decide) fl_X5_79 inX5 tyX5_ok nmX5 rfl rfl rfl rfl ?_
            refine y_iincN (i := 4) (ls2 := [_, _, _, _, _, _, _, _]) dX5_goesThrough_170 rfl (by decide) rfl rfl ?_
            refine x_goto (tgt := 13) dX5_goesThrough_173 rfl ?_
            exact x_mask [true, true, true, true, true, false, false, false] <| ih (i + 1) _ (by omega) (ms_keep hs (fun q _ => by simp (disch := omega) only [xui_o])) (gq_step hq hne (by first | exact (if_pos h142).symm | (rw [nI_0, Int32.add_zero]; exact (if_neg h142).symm))) (fq_step hf)
          · skip
            refine x_iload_n (i := 1) dX5_goesThrough_145 rfl rfl ?_
            refine x_aload_n (i := 0) dX5_goesThrough_146 rfl rfl ?_
            refine x_getr (i := 5) dX5_goesThrough_147 rfl rfl rfl (by decide) fl_X5_22 inX5 ?_
            refine x_iload (i := 4) dX5_goesThrough_150 rfl ?_
            refine x_ialdE dX5_goesThrough_152 rfl (by omega) (by decide) (show _ = pP T (nI k) (nI w) r (i + 1) by simp (disch := omega) [xui_o, xui_s, upd]) ?_
            refine x_aload_n (i := 0) dX5_goesThrough_153 rfl rfl ?_
            refine x_getr (i := 0) dX5_goesThrough_154 rfl rfl rfl (by decide) fl_X5_9 inX5 ?_
            refine x_iconstN (n := 1) dX5_goesThrough_157 ?_
            refine x_ialdE dX5_goesThrough_158 rfl (by omega) (by decide) (show _ = tIn T by simp (disch := omega) only [xui_o]; exact ms_in hs) ?_
            refine x_s3i dX5_goesThrough_159 okX5_shakesAt ml_X5_89 (Nat.le_of_ble_eq_true rfl) ⟨by decide, by decide⟩ (Nat.le_of_ble_eq_true rfl) (c_X5_shakesAt _ _ _ ?_)
            refine x_goto (tgt := 166) dX5_goesThrough_162 rfl ?_
            refine x_iadd dX5_goesThrough_166 ?_
            refine x_puti (i := 7) (ty := .int) dX5_goesThrough_167 rfl rfl rfl (by decide) fl_X5_79 inX5 tyX5_ok nmX5 rfl rfl rfl rfl ?_
            refine y_iincN (i := 4) (ls2 := [_, _, _, _, _, _, _, _]) dX5_goesThrough_170 rfl (by decide) rfl rfl ?_
            refine x_goto (tgt := 13) dX5_goesThrough_173 rfl ?_
            exact x_mask [true, true, true, true, true, false, false, false] <| ih (i + 1) _ (by omega) (ms_keep hs (fun q _ => by simp (disch := omega) only [xui_o])) (gq_step hq hne (by first | exact (if_pos h142).symm | (rw [nI_0, Int32.add_zero]; exact (if_neg h142).symm))) (fq_step hf)
      · skip
        refine x_iload_n (i := 2) dX5_goesThrough_45 rfl rfl ?_
        refine x_goto (tgt := 67) dX5_goesThrough_46 rfl ?_
        have hi0 : i = 0 := nI0 (by omega) h42
        refine x_top (y := fTop (nI k) (nI w) (pP T (nI k) (nI w) r i)) (by subst hi0; exact (top_w hk6 h80).symm) ?_
        refine y_istore (i := 7) (ls2 := [_, _, _, _, _, _, _, _]) dX5_goesThrough_67 (by decide) rfl rfl ?_
        refine x_aload_n (i := 0) dX5_goesThrough_69 rfl rfl ?_
        refine x_getr (i := 5) dX5_goesThrough_70 rfl rfl rfl (by decide) fl_X5_22 inX5 ?_
        refine x_iload (i := 4) dX5_goesThrough_73 rfl ?_
        refine x_iload (i := 6) dX5_goesThrough_75 rfl ?_
        refine x_ifne (tgt := 85) dX5_goesThrough_77 rfl (fun h77 => ?_) (fun h77 => ?_)
        · skip
          obtain ⟨x, hx4, ex⟩ := hO.2.2.2.1 (r * 20 + i) (by omega)
          have ht : tTh T (r * 20 + i) = nI 1 ∨ tTh T (r * 20 + i) = nI 2 ∨ tTh T (r * 20 + i) = nI 3 ∨ tTh T (r * 20 + i) = nI 4 := by
            rw [ex] at h77 ⊢
            match x, hx4, h77 with
            | 0, _, h => exact absurd rfl h
            | 1, _, _ => exact Or.inl rfl
            | 2, _, _ => exact Or.inr (Or.inl rfl)
            | 3, _, _ => exact Or.inr (Or.inr (Or.inl rfl))
            | 4, _, _ => exact Or.inr (Or.inr (Or.inr rfl))
          refine x_iload (i := 7) dX5_goesThrough_85 rfl ?_
          refine x_iload_n (i := 1) dX5_goesThrough_87 rfl rfl ?_
          refine x_iload (i := 6) dX5_goesThrough_88 rfl ?_
          refine x_iload_n (i := 2) dX5_goesThrough_90 rfl rfl ?_
          refine x_aload_n (i := 0) dX5_goesThrough_91 rfl rfl ?_
          refine x_getr (i := 0) dX5_goesThrough_92 rfl rfl rfl (by decide) fl_X5_9 inX5 ?_
          refine x_iconstN (n := 1) dX5_goesThrough_95 ?_
          refine x_ialdE dX5_goesThrough_96 rfl (by omega) (by decide) (ms_in hs) ?_
          refine x_aload_n (i := 0) dX5_goesThrough_97 rfl rfl ?_
          refine x_getr (i := 0) dX5_goesThrough_98 rfl rfl rfl (by decide) fl_X5_9 inX5 ?_
          refine x_bipush (v := nI 63) dX5_goesThrough_101 (by decide) ?_
          refine x_iload (i := 5) dX5_goesThrough_103 rfl ?_
          refine x_iaddN dX5_goesThrough_105 ?_
          refine x_ialdE dX5_goesThrough_106 rfl (by omega) (by decide) (show _ = tAg T (r * 20 + i) by rw [show 63 + (20 * r + i) = 63 + (r * 20 + i) by omega]; exact ms_ag hs (by omega)) ?_
          refine x_s5i dX5_goesThrough_107 okX5_slowsTo ml_X5_86 (Nat.le_of_ble_eq_true rfl) ⟨by decide, by decide⟩ (Nat.le_of_ble_eq_true rfl) (c_X5_slowsTo _ _ _ _ _ ht ?_)
          refine x_s2i dX5_goesThrough_110 okX5_less ml_X5_71 (Nat.le_of_ble_eq_true rfl) ⟨by decide, by decide⟩ (Nat.le_of_ble_eq_true rfl) (c_X5_less _ _ ?_)
          refine x_top (y := pP T (nI k) (nI w) r (i + 1)) ((lt_or_eq_ite _ _).trans (if_neg h77).symm) ?_
          refine x_iastN dX5_goesThrough_113 rfl (by omega) (by decide) ?_
          refine x_aload_n (i := 0) dX5_goesThrough_114 rfl rfl ?_
          refine x_dup dX5_goesThrough_115 rfl ?_
          refine x_getiE (i := 6) dX5_goesThrough_116 rfl rfl rfl (by decide) fl_X5_75 inX5 (show _ = fT (nI k) (nI w) (tIn T) (fun i => tTh T (r * 20 + i)) (fun i => tAg T (r * 20 + i)) i by simp (disch := omega) only [xui_o]; exact hq.2.1) ?_
          refine x_sipush (v := nI 1227) dX5_goesThrough_119 (by decide) ?_
          refine x_aload_n (i := 0) dX5_goesThrough_122 rfl rfl ?_
          refine x_getr (i := 5) dX5_goesThrough_123 rfl rfl rfl (by decide) fl_X5_22 inX5 ?_
          refine x_iload (i := 4) dX5_goesThrough_126 rfl ?_
          refine x_ialdE dX5_goesThrough_128 rfl (by omega) (by decide) (show _ = pP T (nI k) (nI w) r (i + 1) by simp [xui, upd]) ?_
          refine x_idiv dX5_goesThrough_129 hne0 ?_
          refine x_iadd dX5_goesThrough_130 ?_
          refine x_puti (i := 6) (ty := .int) dX5_goesThrough_131 rfl rfl rfl (by decide) fl_X5_75 inX5 tyX5_ok nmX5 rfl rfl rfl rfl ?_
          refine x_aload_n (i := 0) dX5_goesThrough_134 rfl rfl ?_
          refine x_dup dX5_goesThrough_135 rfl ?_
          refine x_getiE (i := 7) dX5_goesThrough_136 rfl rfl rfl (by decide) fl_X5_79 inX5 (show _ = fS (nI k) (nI w) (tIn T) (fun i => tTh T (r * 20 + i)) (fun i => tAg T (r * 20 + i)) i by simp (disch := omega) [xui_o, xui_s, upd]; exact hq.2.2) ?_
          refine x_iload (i := 6) dX5_goesThrough_139 rfl ?_
          refine x_iconstN (n := 1) dX5_goesThrough_141 ?_
          refine x_icne (tgt := 165) dX5_goesThrough_142 rfl (fun h142 => ?_) (fun h142 => ?_)
          · skip
            refine x_iconstN (n := 0) dX5_goesThrough_165 ?_
            refine x_iadd dX5_goesThrough_166 ?_
            refine x_puti (i := 7) (ty := .int) dX5_goesThrough_167 rfl rfl rfl (by decide) fl_X5_79 inX5 tyX5_ok nmX5 rfl rfl rfl rfl ?_
            refine y_iincN (i := 4) (ls2 := [_, _, _, _, _, _, _, _]) dX5_goesThrough_170 rfl (by decide) rfl rfl ?_
            refine x_goto (tgt := 13) dX5_goesThrough_173 rfl ?_
            exact x_mask [true, true, true, true, true, false, false, false] <| ih (i + 1) _ (by omega) (ms_keep hs (fun q _ => by simp (disch := omega) only [xui_o])) (gq_step hq hne (by first | exact (if_pos h142).symm | (rw [nI_0, Int32.add_zero]; exact (if_neg h142).symm))) (fq_step hf)
          · skip
            refine x_iload_n (i := 1) dX5_goesThrough_145 rfl rfl ?_
            refine x_aload_n (i := 0) dX5_goesThrough_146 rfl rfl ?_
            refine x_getr (i := 5) dX5_goesThrough_147 rfl rfl rfl (by decide) fl_X5_22 inX5 ?_
            refine x_iload (i := 4) dX5_goesThrough_150 rfl ?_
            refine x_ialdE dX5_goesThrough_152 rfl (by omega) (by decide) (show _ = pP T (nI k) (nI w) r (i + 1) by simp (disch := omega) [xui_o, xui_s, upd]) ?_
            refine x_aload_n (i := 0) dX5_goesThrough_153 rfl rfl ?_
            refine x_getr (i := 0) dX5_goesThrough_154 rfl rfl rfl (by decide) fl_X5_9 inX5 ?_
            refine x_iconstN (n := 1) dX5_goesThrough_157 ?_
            refine x_ialdE dX5_goesThrough_158 rfl (by omega) (by decide) (show _ = tIn T by simp (disch := omega) only [xui_o]; exact ms_in hs) ?_
            refine x_s3i dX5_goesThrough_159 okX5_shakesAt ml_X5_89 (Nat.le_of_ble_eq_true rfl) ⟨by decide, by decide⟩ (Nat.le_of_ble_eq_true rfl) (c_X5_shakesAt _ _ _ ?_)
            refine x_goto (tgt := 166) dX5_goesThrough_162 rfl ?_
            refine x_iadd dX5_goesThrough_166 ?_
            refine x_puti (i := 7) (ty := .int) dX5_goesThrough_167 rfl rfl rfl (by decide) fl_X5_79 inX5 tyX5_ok nmX5 rfl rfl rfl rfl ?_
            refine y_iincN (i := 4) (ls2 := [_, _, _, _, _, _, _, _]) dX5_goesThrough_170 rfl (by decide) rfl rfl ?_
            refine x_goto (tgt := 13) dX5_goesThrough_173 rfl ?_
            exact x_mask [true, true, true, true, true, false, false, false] <| ih (i + 1) _ (by omega) (ms_keep hs (fun q _ => by simp (disch := omega) only [xui_o])) (gq_step hq hne (by first | exact (if_pos h142).symm | (rw [nI_0, Int32.add_zero]; exact (if_neg h142).symm))) (fq_step hf)
        · skip
          refine x_iload (i := 7) dX5_goesThrough_80 rfl ?_
          refine x_goto (tgt := 113) dX5_goesThrough_82 rfl ?_
          refine x_top (y := pP T (nI k) (nI w) r (i + 1)) (if_pos h77).symm ?_
          refine x_iastN dX5_goesThrough_113 rfl (by omega) (by decide) ?_
          refine x_aload_n (i := 0) dX5_goesThrough_114 rfl rfl ?_
          refine x_dup dX5_goesThrough_115 rfl ?_
          refine x_getiE (i := 6) dX5_goesThrough_116 rfl rfl rfl (by decide) fl_X5_75 inX5 (show _ = fT (nI k) (nI w) (tIn T) (fun i => tTh T (r * 20 + i)) (fun i => tAg T (r * 20 + i)) i by simp (disch := omega) only [xui_o]; exact hq.2.1) ?_
          refine x_sipush (v := nI 1227) dX5_goesThrough_119 (by decide) ?_
          refine x_aload_n (i := 0) dX5_goesThrough_122 rfl rfl ?_
          refine x_getr (i := 5) dX5_goesThrough_123 rfl rfl rfl (by decide) fl_X5_22 inX5 ?_
          refine x_iload (i := 4) dX5_goesThrough_126 rfl ?_
          refine x_ialdE dX5_goesThrough_128 rfl (by omega) (by decide) (show _ = pP T (nI k) (nI w) r (i + 1) by simp [xui, upd]) ?_
          refine x_idiv dX5_goesThrough_129 hne0 ?_
          refine x_iadd dX5_goesThrough_130 ?_
          refine x_puti (i := 6) (ty := .int) dX5_goesThrough_131 rfl rfl rfl (by decide) fl_X5_75 inX5 tyX5_ok nmX5 rfl rfl rfl rfl ?_
          refine x_aload_n (i := 0) dX5_goesThrough_134 rfl rfl ?_
          refine x_dup dX5_goesThrough_135 rfl ?_
          refine x_getiE (i := 7) dX5_goesThrough_136 rfl rfl rfl (by decide) fl_X5_79 inX5 (show _ = fS (nI k) (nI w) (tIn T) (fun i => tTh T (r * 20 + i)) (fun i => tAg T (r * 20 + i)) i by simp (disch := omega) [xui_o, xui_s, upd]; exact hq.2.2) ?_
          refine x_iload (i := 6) dX5_goesThrough_139 rfl ?_
          refine x_iconstN (n := 1) dX5_goesThrough_141 ?_
          refine x_icne (tgt := 165) dX5_goesThrough_142 rfl (fun h142 => ?_) (fun h142 => ?_)
          · skip
            refine x_iconstN (n := 0) dX5_goesThrough_165 ?_
            refine x_iadd dX5_goesThrough_166 ?_
            refine x_puti (i := 7) (ty := .int) dX5_goesThrough_167 rfl rfl rfl (by decide) fl_X5_79 inX5 tyX5_ok nmX5 rfl rfl rfl rfl ?_
            refine y_iincN (i := 4) (ls2 := [_, _, _, _, _, _, _, _]) dX5_goesThrough_170 rfl (by decide) rfl rfl ?_
            refine x_goto (tgt := 13) dX5_goesThrough_173 rfl ?_
            exact x_mask [true, true, true, true, true, false, false, false] <| ih (i + 1) _ (by omega) (ms_keep hs (fun q _ => by simp (disch := omega) only [xui_o])) (gq_step hq hne (by first | exact (if_pos h142).symm | (rw [nI_0, Int32.add_zero]; exact (if_neg h142).symm))) (fq_step hf)
          · skip
            refine x_iload_n (i := 1) dX5_goesThrough_145 rfl rfl ?_
            refine x_aload_n (i := 0) dX5_goesThrough_146 rfl rfl ?_
            refine x_getr (i := 5) dX5_goesThrough_147 rfl rfl rfl (by decide) fl_X5_22 inX5 ?_
            refine x_iload (i := 4) dX5_goesThrough_150 rfl ?_
            refine x_ialdE dX5_goesThrough_152 rfl (by omega) (by decide) (show _ = pP T (nI k) (nI w) r (i + 1) by simp (disch := omega) [xui_o, xui_s, upd]) ?_
            refine x_aload_n (i := 0) dX5_goesThrough_153 rfl rfl ?_
            refine x_getr (i := 0) dX5_goesThrough_154 rfl rfl rfl (by decide) fl_X5_9 inX5 ?_
            refine x_iconstN (n := 1) dX5_goesThrough_157 ?_
            refine x_ialdE dX5_goesThrough_158 rfl (by omega) (by decide) (show _ = tIn T by simp (disch := omega) only [xui_o]; exact ms_in hs) ?_
            refine x_s3i dX5_goesThrough_159 okX5_shakesAt ml_X5_89 (Nat.le_of_ble_eq_true rfl) ⟨by decide, by decide⟩ (Nat.le_of_ble_eq_true rfl) (c_X5_shakesAt _ _ _ ?_)
            refine x_goto (tgt := 166) dX5_goesThrough_162 rfl ?_
            refine x_iadd dX5_goesThrough_166 ?_
            refine x_puti (i := 7) (ty := .int) dX5_goesThrough_167 rfl rfl rfl (by decide) fl_X5_79 inX5 tyX5_ok nmX5 rfl rfl rfl rfl ?_
            refine y_iincN (i := 4) (ls2 := [_, _, _, _, _, _, _, _]) dX5_goesThrough_170 rfl (by decide) rfl rfl ?_
            refine x_goto (tgt := 13) dX5_goesThrough_173 rfl ?_
            exact x_mask [true, true, true, true, true, false, false, false] <| ih (i + 1) _ (by omega) (ms_keep hs (fun q _ => by simp (disch := omega) only [xui_o])) (gq_step hq hne (by first | exact (if_pos h142).symm | (rw [nI_0, Int32.add_zero]; exact (if_neg h142).symm))) (fq_step hf)
set_option maxHeartbeats 4000000 in
set_option maxRecDepth 20000 in
theorem c_X5_goesThrough {σ : xH} {K : xH → Prop} {T : Tw} (hO : tOk T) {k w r : Nat} (hk6 : k < 6) (h10 : 10 ≤ w) (h80 : w ≤ 80) (hr : r < 3) (hs : ms σ 1 T) (hk : ∀ τ, gq τ T (nI k) (nI w) r 20 → fq σ τ → K τ) : Evv l (oM ad D cy) mX5_goesThrough [.ref 0, .int (nI k), .int (nI w), .int (nI r)] σ K := by
  refine x_enter (ls := [some (.ref 0), some (.int (nI k)), some (.int (nI w)), some (.int (nI r)), none, none, none, none]) rfl ?_
  refine x_aload_n (i := 0) dX5_goesThrough_0 rfl rfl ?_
  refine x_iconstN (n := 0) dX5_goesThrough_1 ?_
  refine x_puti (i := 6) (ty := .int) dX5_goesThrough_2 rfl rfl rfl (by decide) fl_X5_75 inX5 tyX5_ok nmX5 rfl rfl rfl rfl ?_
  refine x_aload_n (i := 0) dX5_goesThrough_5 rfl rfl ?_
  refine x_iconstN (n := 0) dX5_goesThrough_6 ?_
  refine x_puti (i := 7) (ty := .int) dX5_goesThrough_7 rfl rfl rfl (by decide) fl_X5_79 inX5 tyX5_ok nmX5 rfl rfl rfl rfl ?_
  refine x_iconstN (n := 0) dX5_goesThrough_10 ?_
  refine y_istore (i := 4) (ls2 := [_, _, _, _, _, _, _, _]) dX5_goesThrough_11 (by decide) rfl rfl ?_
  exact l_X5_goesThrough hO hk6 h10 h80 hr hk 20 0 _ rfl (ms_keep hs (fun q _ => by simp (disch := omega) only [xui_o])) ⟨fun j hj => absurd hj (Nat.not_lt_zero _), by simp [xui, upd, fT], by simp [xui, upd, fS]⟩ ⟨rfl, fun q h0 h5 => by simp (disch := omega) only [xui_o], fun j h6 h7 => by simp [xui, upd, h6, h7]⟩
end
