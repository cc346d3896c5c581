section
variable {l : Launch} {ad : Nat → Nat} {D : va_G} {cy : Nat → ClassId}
/-! THE MODEL'S HEAP holds the state -/
def mL7 : List Nat := [100, 114, 105, 118, 101, 114, 32, 32, 32, 98, 117, 115, 32, 32, 32, 32, 32, 32, 108, 111, 114, 114, 121, 32, 32, 32, 32, 108, 111, 99, 97, 108, 32, 32, 32, 32, 97, 109, 98, 117, 108, 97, 110, 99, 101, 114, 97, 99, 101, 114, 32, 32, 32, 32]
def mL8 : List Nat := [119, 105, 115, 104, 32, 32, 32, 32, 32, 105, 110, 32, 32, 32, 32, 32, 32, 32]
def mL9 : List Nat := [99, 108, 101, 97, 114, 32, 32, 32, 32, 98, 117, 109, 112, 32, 32, 32, 32, 32, 110, 97, 114, 114, 111, 119, 32, 32, 32, 115, 105, 103, 110, 32, 32, 32, 32, 32, 112, 97, 105, 110, 116, 32, 32, 32, 32, 104, 105, 103, 104, 32, 32, 32, 32, 32]
def mW (σ : xH) : Prop := (∀ i, i < 54 → σ.1 7 i = nI (mL7.getD i 32)) ∧ (∀ i, i < 18 → σ.1 8 i = nI (mL8.getD i 32)) ∧ ∀ i, i < 54 → σ.1 9 i = nI (mL9.getD i 32)
def mh (σ : xH) (j : Nat) (b : Int32) (m : Nat) (f : Nat → Int64) : Prop := σ.1 10 j = b ∧ σ.1 11 j = nI m ∧ (∀ i, i < 40 → σ.2 12 (40 * j + i) = f i) ∧ m ≤ 40
def mS (σ : xH) (S : St) : Prop := ms σ 1 (gT S) ∧ σ.1 0 3 = xb ((gK S).isSome = true) ∧ (∀ U, gK S = some U → ms σ 2 U) ∧ σ.1 0 9 = nI (gL S) ∧ (∀ i, i < gL S → σ.1 6 i = gB S i) ∧ gL S ≤ 120 ∧ (∀ j, j < 4 → mh σ j (gW S j) (gZ S j) (gN S j)) ∧ (∀ i, i < 7 → σ.1 4 i = gF S i) ∧ mW σ
theorem mS_h {σ τ : xH} {S : St} (h : mS σ S) (f : fh σ τ) {T : Tw} (hw : ms τ 1 T) : mS τ (pT S T) := by
  obtain ⟨h1, h2, h3, h4, h5, h6, h7, h8, h9⟩ := h
  have key : ∀ q, q ≠ 0 → q ≠ 1 → q ≠ 3 → q ≠ 5 → τ.1 q = σ.1 q := f.2.1
  refine ⟨hw, by rw [f.2.2 3 (by omega) (by omega)]; exact h2, fun U hU => ms_keep (h3 U hU) (fun i _ => by rw [key 2 (by omega) (by omega) (by omega) (by omega)]), by rw [f.2.2 9 (by omega) (by omega)]; exact h4, fun i hi => by rw [key 6 (by omega) (by omega) (by omega) (by omega)]; exact h5 i hi, h6, fun j hj => ?_, fun i hi => by rw [key 4 (by omega) (by omega) (by omega) (by omega)]; exact h8 i hi, ?_⟩
  · obtain ⟨g1, g2, g3, g4⟩ := h7 j hj
    exact ⟨by rw [key 10 (by omega) (by omega) (by omega) (by omega)]; exact g1, by rw [key 11 (by omega) (by omega) (by omega) (by omega)]; exact g2, fun i hi => by rw [f.1]; exact g3 i hi, g4⟩
  · exact ⟨fun i hi => by rw [key 7 (by omega) (by omega) (by omega) (by omega)]; exact h9.1 i hi, fun i hi => by rw [key 8 (by omega) (by omega) (by omega) (by omega)]; exact h9.2.1 i hi, fun i hi => by rw [key 9 (by omega) (by omega) (by omega) (by omega)]; exact h9.2.2 i hi⟩
theorem mS_h0 {σ τ : xH} {S : St} (h : mS σ S) (f : fh σ τ) (hw : ms τ 1 (gT S)) : mS τ S := mS_h (T := gT S) h f hw
theorem mS_q {σ τ : xH} {S : St} (h : mS σ S) (f : fq σ τ) : mS τ S := mS_h0 h (fq_fh f) (ms_fq h.1 f (by decide) (by decide))
theorem mS_g {σ τ : xH} {S : St} (h : mS σ S) (f : fg σ τ) {T : Tw} (hw : ms τ 1 T) : mS τ (pT S T) := mS_h h (fg_fh f) hw
theorem mS_tell {σ : xH} {S : St} (h : mS σ S) {k : Nat} (hk : k < 7) : mS (xpi σ 4 k (gF S k + nI 1)) (tellS S k).2 := by
  obtain ⟨h1, h2, h3, h4, h5, h6, h7, h8, h9⟩ := h
  have key : ∀ q, q ≠ 4 → (xpi σ 4 k (gF S k + nI 1)).1 q = σ.1 q := fun q hq => xui_o _ _ hq
  refine ⟨ms_keep h1 (fun i _ => by rw [key 1 (by omega)]), by rw [key 0 (by omega)]; exact h2, fun U hU => ms_keep (h3 U hU) (fun i _ => by rw [key 2 (by omega)]), by rw [key 0 (by omega)]; exact h4, fun i hi => by rw [key 6 (by omega)]; exact h5 i hi, h6, fun j hj => ?_, fun i hi => ?_, ?_⟩
  · obtain ⟨g1, g2, g3, g4⟩ := h7 j hj
    exact ⟨by rw [key 10 (by omega)]; exact g1, by rw [key 11 (by omega)]; exact g2, g3, g4⟩
  · rw [xui_s]
    show upd (σ.1 4) k (gF S k + nI 1) i = upd (gF S) k (gF S k + nI 1) i
    by_cases e : i = k
    · simp [upd, e]
    · simp [upd, e, h8 i hi]
  · exact ⟨fun i hi => by rw [key 7 (by omega)]; exact h9.1 i hi, fun i hi => by rw [key 8 (by omega)]; exact h9.2.1 i hi, fun i hi => by rw [key 9 (by omega)]; exact h9.2.2 i hi⟩
theorem mS_pT (S : St) : pT S (gT S) = S := rfl
theorem ms_th2 {σ : xH} {c r i : Nat} {T : Tw} (h : ms σ c T) (hi : r * 20 + i < 60) : σ.1 c (3 + 20 * r + i) = tTh T (r * 20 + i) := by rw [show 3 + 20 * r + i = 3 + (r * 20 + i) by omega]; exact ms_th h hi
theorem ms_ag2 {σ : xH} {c r i : Nat} {T : Tw} (h : ms σ c T) (hi : r * 20 + i < 60) : σ.1 c (63 + 20 * r + i) = tAg T (r * 20 + i) := by rw [show 63 + 20 * r + i = 63 + (r * 20 + i) by omega]; exact ms_ag h hi
theorem vR_pred {n : Nat} (hn : n < 2147483647) {a : Int32} : vR (nI 0) (nI n - nI 1) a ↔ vN n a := by
  match n with
  | 0 =>
    unfold vR vN
    have e0 : (nI 0 : Int32).toInt = 0 := by decide
    have e1 : (nI 0 - nI 1 : Int32).toInt = -1 := by decide
    have e2 : (0 : Int32).toInt = 0 := by decide
    rw [Int32.lt_iff_toInt_lt, Int32.lt_iff_toInt_lt, Int32.lt_iff_toInt_lt, Int32.le_iff_toInt_le, e0, e1, e2]
    omega
  | n + 1 => rw [show nI (n + 1) - nI 1 = nI n from nI_pred n]; exact vR_vN (by omega)
theorem c_inN {σ : xH} {K : Int32 → xH → Prop} {n : Nat} (hn : n < 2147483647) (v : Int32) (hk : K (xb (vN (n + 1) v)) σ) : Evi l (oM ad D cy) mX5_in1 [.int v, .int (nI 0), .int (nI n)] σ K := c_X5_in1 _ _ _ (by rw [xb_vN n hn]; exact hk)
set_option maxHeartbeats 4000000 in
set_option maxRecDepth 20000 in
theorem c_X5_no {σ : xH} {K : Int32 → xH → Prop} {S : St} (hS : mS σ S) (k : Nat) (hk7 : k < 7) (hk : ∀ τ, mS τ (tellS S k).2 → K (tellS S k).1 τ) : Evi l (oM ad D cy) mX5_no [.ref 0, .int (nI k)] σ K := by
  refine x_enter (ls := [some (.ref 0), some (.int (nI k))]) rfl ?_
  refine x_aload_n (i := 0) dX5_no_0 rfl rfl ?_
  refine x_getr (i := 4) dX5_no_1 rfl rfl rfl (by decide) fl_X5_19 inX5 ?_
  refine x_iload_n (i := 1) dX5_no_4 rfl rfl ?_
  refine x_dup2 dX5_no_5 rfl rfl ?_
  refine x_ialdE dX5_no_6 rfl (by omega) (by decide) (hS.2.2.2.2.2.2.2.1 k hk7) ?_
  refine x_iconstN (n := 1) dX5_no_7 ?_
  refine x_iadd dX5_no_8 ?_
  refine x_iastN dX5_no_9 rfl (by omega) (by decide) ?_
  refine x_ldc (v := -1000000001) dX5_no_10 kc_X5_51 ?_
  refine x_iload_n (i := 1) dX5_no_12 rfl rfl ?_
  refine x_isub dX5_no_13 ?_
  exact x_ireti dX5_no_14 rfl (hk _ (mS_tell hS hk7))
set_option maxHeartbeats 4000000 in
set_option maxRecDepth 20000 in
theorem c_X5_isDriver {σ : xH} {K : Int32 → xH → Prop} {T : Tw} (hs : ms σ 1 T) (v : Int32) (hk : K (xb (vN (tN T) v)) σ) : Evi l (oM ad D cy) mX5_isDriver [.ref 0, .int v] σ K := by
  refine x_enter (ls := [some (.ref 0), some (.int v)]) rfl ?_
  refine x_iload_n (i := 1) dX5_isDriver_0 rfl rfl ?_
  refine x_iconstN (n := 0) dX5_isDriver_1 ?_
  refine x_aload_n (i := 0) dX5_isDriver_2 rfl rfl ?_
  refine x_getr (i := 0) dX5_isDriver_3 rfl rfl rfl (by decide) fl_X5_9 inX5 ?_
  refine x_iconstN (n := 2) dX5_isDriver_6 ?_
  refine x_ialdE dX5_isDriver_7 rfl (by omega) (by decide) (ms_n hs) ?_
  refine x_iconstN (n := 1) dX5_isDriver_8 ?_
  refine x_isub dX5_isDriver_9 ?_
  refine x_s3i dX5_isDriver_10 okX5_in1 ml_X5_52 (Nat.le_of_ble_eq_true rfl) ⟨by decide, by decide⟩ (Nat.le_of_ble_eq_true rfl) (c_X5_in1 _ _ _ ?_)
  exact x_iretz dX5_isDriver_13 rfl (xb_01 _) (by rw [xb_congr (vR_pred (by have := ms_8 hs; omega))]; exact hk)
set_option maxHeartbeats 4000000 in
set_option maxRecDepth 20000 in
theorem c_X5_areBoth {σ : xH} {K : Int32 → xH → Prop} {T : Tw} (hs : ms σ 1 T) (v a : Int32) (hk : K (xb (vN (tN T) v ∧ vN 3 a)) σ) : Evi l (oM ad D cy) mX5_areBoth [.ref 0, .int v, .int a] σ K := by
  refine x_enter (ls := [some (.ref 0), some (.int v), some (.int a)]) rfl ?_
  refine x_aload_n (i := 0) dX5_areBoth_0 rfl rfl ?_
  refine x_iload_n (i := 1) dX5_areBoth_1 rfl rfl ?_
  refine x_v1i dX5_areBoth_2 okX5_isDriver ml_X5_140 rfl rfl (Nat.le_of_ble_eq_true rfl) ⟨by decide, by decide⟩ (Nat.le_of_ble_eq_true rfl) (c_X5_isDriver hs _ ?_)
  refine x_ifeqP (tgt := 19) dX5_areBoth_5 rfl (fun h5 => ?_) (fun h5 => ?_)
  · skip
    refine x_iconstN (n := 0) dX5_areBoth_19 ?_
    exact x_iretz dX5_areBoth_20 rfl (by decide) (by first | (rw [xb_t ⟨h5, h12⟩] at hk; exact hk) | (rw [xb_f (fun z => h12 z.2)] at hk; exact hk) | (rw [xb_f (fun z => h5 z.1)] at hk; exact hk))
  · skip
    refine x_iload_n (i := 2) dX5_areBoth_8 rfl rfl ?_
    refine x_s1i dX5_areBoth_9 okX5_isStreet ml_X5_112 (Nat.le_of_ble_eq_true rfl) ⟨by decide, by decide⟩ (Nat.le_of_ble_eq_true rfl) (c_X5_isStreet _ ?_)
    refine x_ifeqP (tgt := 19) dX5_areBoth_12 rfl (fun h12 => ?_) (fun h12 => ?_)
    · skip
      refine x_iconstN (n := 0) dX5_areBoth_19 ?_
      exact x_iretz dX5_areBoth_20 rfl (by decide) (by first | (rw [xb_t ⟨h5, h12⟩] at hk; exact hk) | (rw [xb_f (fun z => h12 z.2)] at hk; exact hk) | (rw [xb_f (fun z => h5 z.1)] at hk; exact hk))
    · skip
      refine x_iconstN (n := 1) dX5_areBoth_15 ?_
      refine x_goto (tgt := 20) dX5_areBoth_16 rfl ?_
      exact x_iretz dX5_areBoth_20 rfl (by decide) (by first | (rw [xb_t ⟨h5, h12⟩] at hk; exact hk) | (rw [xb_f (fun z => h12 z.2)] at hk; exact hk) | (rw [xb_f (fun z => h5 z.1)] at hk; exact hk))
set_option maxHeartbeats 4000000 in
set_option maxRecDepth 20000 in
theorem c_X5_thing {σ : xH} {K : Int32 → xH → Prop} {S : St} (hS : mS σ S) (hO : tOk (gT S)) (a b v : Int32) (hk : ∀ τ, mS τ (oThing S a b v).2 → K (oThing S a b v).1 τ) : Evi l (oM ad D cy) mX5_thing [.ref 0, .int a, .int b, .int v] σ K := by
  have hs := hS.1
  have h8 := ms_8 hs
  refine x_enter (ls := [some (.ref 0), some (.int a), some (.int b), some (.int v), none]) rfl ?_
  by_cases hc : (vN 3 a ∧ vN 20 b) ∧ vR (nI 0) (nI 4) v
  · unfold oThing at hk
    rw [if_pos hc] at hk
    obtain ⟨r, hr, rfl⟩ := vN_of hc.1.1 (by decide)
    obtain ⟨i, hi, rfl⟩ := vN_of hc.1.2 (by decide)
    simp only [cn, nI_clamp (show r < 2 ^ 31 by omega), nI_clamp (show i < 2 ^ 31 by omega)] at hk
    refine x_iload_n (i := 1) dX5_thing_0 rfl rfl ?_
    refine x_s1i dX5_thing_1 okX5_isStreet ml_X5_112 (Nat.le_of_ble_eq_true rfl) ⟨by decide, by decide⟩ (Nat.le_of_ble_eq_true rfl) (c_X5_isStreet _ ?_)
    refine x_ifeqP (tgt := 23) dX5_thing_4 rfl (fun h4 => ?_) (fun h4 => ?_)
    · exact absurd hc.1.1 h4
    · skip
      refine x_iload_n (i := 2) dX5_thing_7 rfl rfl ?_
      refine x_s1i dX5_thing_8 okX5_isStretch ml_X5_115 (Nat.le_of_ble_eq_true rfl) ⟨by decide, by decide⟩ (Nat.le_of_ble_eq_true rfl) (c_X5_isStretch _ ?_)
      refine x_ifeqP (tgt := 23) dX5_thing_11 rfl (fun h11 => ?_) (fun h11 => ?_)
      · exact absurd hc.1.2 h11
      · skip
        refine x_iload_n (i := 3) dX5_thing_14 rfl rfl ?_
        refine x_iconstN (n := 0) dX5_thing_15 ?_
        refine x_iconstN (n := 4) dX5_thing_16 ?_
        refine x_s3i dX5_thing_17 okX5_in1 ml_X5_52 (Nat.le_of_ble_eq_true rfl) ⟨by decide, by decide⟩ (Nat.le_of_ble_eq_true rfl) (c_X5_in1 _ _ _ ?_)
        refine x_ifneP (tgt := 29) dX5_thing_20 rfl (fun h20 => ?_) (fun h20 => ?_)
        · skip
          refine x_aload_n (i := 0) dX5_thing_29 rfl rfl ?_
          refine x_getr (i := 0) dX5_thing_30 rfl rfl rfl (by decide) fl_X5_9 inX5 ?_
          refine x_iconstN (n := 3) dX5_thing_33 ?_
          refine x_bipush (v := nI 20) dX5_thing_34 (by decide) ?_
          refine x_iload_n (i := 1) dX5_thing_36 rfl rfl ?_
          refine x_imulN dX5_thing_37 ?_
          refine x_iaddN dX5_thing_38 ?_
          refine x_iload_n (i := 2) dX5_thing_39 rfl rfl ?_
          refine x_iaddN dX5_thing_40 ?_
          refine x_ialdE dX5_thing_41 rfl (by omega) (by decide) (ms_th2 hs (by omega)) ?_
          refine y_istore (i := 4) (ls2 := [_, _, _, _, _]) dX5_thing_42 (by decide) rfl rfl ?_
          refine x_aload_n (i := 0) dX5_thing_44 rfl rfl ?_
          refine x_iload_n (i := 1) dX5_thing_45 rfl rfl ?_
          refine x_iload_n (i := 2) dX5_thing_46 rfl rfl ?_
          refine x_iload_n (i := 3) dX5_thing_47 rfl rfl ?_
          refine x_v3v dX5_thing_48 okX5_lies ml_X5_121 rfl rfl (Nat.le_of_ble_eq_true rfl) ⟨by decide, by decide⟩ (Nat.le_of_ble_eq_true rfl) (c_X5_lies hs hr hi _ (fun τ hw1 hf1 => ?_))
          refine x_iload (i := 4) dX5_thing_51 rfl ?_
          exact x_ireti dX5_thing_53 rfl (hk τ (mS_g hS hf1 hw1))
        · exact absurd hc.2 h20
  · unfold oThing at hk
    rw [if_neg hc] at hk
    refine x_iload_n (i := 1) dX5_thing_0 rfl rfl ?_
    refine x_s1i dX5_thing_1 okX5_isStreet ml_X5_112 (Nat.le_of_ble_eq_true rfl) ⟨by decide, by decide⟩ (Nat.le_of_ble_eq_true rfl) (c_X5_isStreet _ ?_)
    refine x_ifeqP (tgt := 23) dX5_thing_4 rfl (fun h4 => ?_) (fun h4 => ?_)
    · skip
      refine x_aload_n (i := 0) dX5_thing_23 rfl rfl ?_
      refine x_iconstN (n := 0) dX5_thing_24 ?_
      refine x_v1i dX5_thing_25 okX5_no ml_X5_118 rfl rfl (Nat.le_of_ble_eq_true rfl) ⟨by decide, by decide⟩ (Nat.le_of_ble_eq_true rfl) (c_X5_no hS 0 (by decide) (fun τ hτ => ?_))
      exact x_ireti dX5_thing_28 rfl (hk τ hτ)
    · skip
      refine x_iload_n (i := 2) dX5_thing_7 rfl rfl ?_
      refine x_s1i dX5_thing_8 okX5_isStretch ml_X5_115 (Nat.le_of_ble_eq_true rfl) ⟨by decide, by decide⟩ (Nat.le_of_ble_eq_true rfl) (c_X5_isStretch _ ?_)
      refine x_ifeqP (tgt := 23) dX5_thing_11 rfl (fun h11 => ?_) (fun h11 => ?_)
      · skip
        refine x_aload_n (i := 0) dX5_thing_23 rfl rfl ?_
        refine x_iconstN (n := 0) dX5_thing_24 ?_
        refine x_v1i dX5_thing_25 okX5_no ml_X5_118 rfl rfl (Nat.le_of_ble_eq_true rfl) ⟨by decide, by decide⟩ (Nat.le_of_ble_eq_true rfl) (c_X5_no hS 0 (by decide) (fun τ hτ => ?_))
        exact x_ireti dX5_thing_28 rfl (hk τ hτ)
      · skip
        refine x_iload_n (i := 3) dX5_thing_14 rfl rfl ?_
        refine x_iconstN (n := 0) dX5_thing_15 ?_
        refine x_iconstN (n := 4) dX5_thing_16 ?_
        refine x_s3i dX5_thing_17 okX5_in1 ml_X5_52 (Nat.le_of_ble_eq_true rfl) ⟨by decide, by decide⟩ (Nat.le_of_ble_eq_true rfl) (c_X5_in1 _ _ _ ?_)
        refine x_ifneP (tgt := 29) dX5_thing_20 rfl (fun h20 => ?_) (fun h20 => ?_)
        · exact absurd ⟨⟨h4, h11⟩, h20⟩ hc
        · skip
          refine x_aload_n (i := 0) dX5_thing_23 rfl rfl ?_
          refine x_iconstN (n := 0) dX5_thing_24 ?_
          refine x_v1i dX5_thing_25 okX5_no ml_X5_118 rfl rfl (Nat.le_of_ble_eq_true rfl) ⟨by decide, by decide⟩ (Nat.le_of_ble_eq_true rfl) (c_X5_no hS 0 (by decide) (fun τ hτ => ?_))
          exact x_ireti dX5_thing_28 rfl (hk τ hτ)
set_option maxHeartbeats 4000000 in
set_option maxRecDepth 20000 in
theorem c_X5_stretch {σ : xH} {K : Int32 → xH → Prop} {S : St} (hS : mS σ S) (hO : tOk (gT S)) (a b c : Int32) (hk : ∀ τ, mS τ (oStretch S a b c).2 → K (oStretch S a b c).1 τ) : Evi l (oM ad D cy) mX5_stretch [.ref 0, .int a, .int b, .int c] σ K := by
  have hs := hS.1
  have h8 := ms_8 hs
  refine x_enter (ls := [some (.ref 0), some (.int a), some (.int b), some (.int c)]) rfl ?_
  by_cases hc : (vN 3 a ∧ vN 20 b) ∧ vR (nI 0) (nI 1) c
  · unfold oStretch at hk
    rw [if_pos hc] at hk
    obtain ⟨r, hr, rfl⟩ := vN_of hc.1.1 (by decide)
    obtain ⟨i, hi, rfl⟩ := vN_of hc.1.2 (by decide)
    simp only [cn, nI_clamp (show r < 2 ^ 31 by omega), nI_clamp (show i < 2 ^ 31 by omega)] at hk
    refine x_iload_n (i := 1) dX5_stretch_0 rfl rfl ?_
    refine x_s1i dX5_stretch_1 okX5_isStreet ml_X5_112 (Nat.le_of_ble_eq_true rfl) ⟨by decide, by decide⟩ (Nat.le_of_ble_eq_true rfl) (c_X5_isStreet _ ?_)
    refine x_ifeqP (tgt := 48) dX5_stretch_4 rfl (fun h4 => ?_) (fun h4 => ?_)
    · exact absurd hc.1.1 h4
    · skip
      refine x_iload_n (i := 2) dX5_stretch_7 rfl rfl ?_
      refine x_s1i dX5_stretch_8 okX5_isStretch ml_X5_115 (Nat.le_of_ble_eq_true rfl) ⟨by decide, by decide⟩ (Nat.le_of_ble_eq_true rfl) (c_X5_isStretch _ ?_)
      refine x_ifeqP (tgt := 48) dX5_stretch_11 rfl (fun h11 => ?_) (fun h11 => ?_)
      · exact absurd hc.1.2 h11
      · skip
        refine x_iload_n (i := 3) dX5_stretch_14 rfl rfl ?_
        refine x_iconstN (n := 0) dX5_stretch_15 ?_
        refine x_iconstN (n := 1) dX5_stretch_16 ?_
        refine x_s3i dX5_stretch_17 okX5_in1 ml_X5_52 (Nat.le_of_ble_eq_true rfl) ⟨by decide, by decide⟩ (Nat.le_of_ble_eq_true rfl) (c_X5_in1 _ _ _ ?_)
        refine x_ifeqP (tgt := 48) dX5_stretch_20 rfl (fun h20 => ?_) (fun h20 => ?_)
        · exact absurd hc.2 h20
        · skip
          refine x_aload_n (i := 0) dX5_stretch_23 rfl rfl ?_
          refine x_getr (i := 0) dX5_stretch_24 rfl rfl rfl (by decide) fl_X5_9 inX5 ?_
          refine x_iload_n (i := 3) dX5_stretch_27 rfl rfl ?_
          refine x_ifne (tgt := 35) dX5_stretch_28 rfl (fun h28 => ?_) (fun h28 => ?_)
          · skip
            refine x_bipush (v := nI 63) dX5_stretch_35 (by decide) ?_
            refine x_bipush (v := nI 20) dX5_stretch_37 (by decide) ?_
            refine x_iload_n (i := 1) dX5_stretch_39 rfl rfl ?_
            refine x_imulN dX5_stretch_40 ?_
            refine x_iaddN dX5_stretch_41 ?_
            refine x_iload_n (i := 2) dX5_stretch_42 rfl rfl ?_
            refine x_iaddN dX5_stretch_43 ?_
            refine x_ialdE dX5_stretch_44 rfl (by omega) (by decide) (by first | exact ms_th2 hs (by omega) | exact ms_ag2 hs (by omega)) ?_
            refine x_goto (tgt := 53) dX5_stretch_45 rfl ?_
            exact x_ireti dX5_stretch_53 rfl (by first | (rw [if_pos h28] at hk; exact hk σ hS) | (rw [if_neg h28] at hk; exact hk σ hS))
          · skip
            refine x_iconstN (n := 3) dX5_stretch_31 ?_
            refine x_goto (tgt := 37) dX5_stretch_32 rfl ?_
            refine x_bipush (v := nI 20) dX5_stretch_37 (by decide) ?_
            refine x_iload_n (i := 1) dX5_stretch_39 rfl rfl ?_
            refine x_imulN dX5_stretch_40 ?_
            refine x_iaddN dX5_stretch_41 ?_
            refine x_iload_n (i := 2) dX5_stretch_42 rfl rfl ?_
            refine x_iaddN dX5_stretch_43 ?_
            refine x_ialdE dX5_stretch_44 rfl (by omega) (by decide) (by first | exact ms_th2 hs (by omega) | exact ms_ag2 hs (by omega)) ?_
            refine x_goto (tgt := 53) dX5_stretch_45 rfl ?_
            exact x_ireti dX5_stretch_53 rfl (by first | (rw [if_pos h28] at hk; exact hk σ hS) | (rw [if_neg h28] at hk; exact hk σ hS))
  · unfold oStretch at hk
    rw [if_neg hc] at hk
    refine x_iload_n (i := 1) dX5_stretch_0 rfl rfl ?_
    refine x_s1i dX5_stretch_1 okX5_isStreet ml_X5_112 (Nat.le_of_ble_eq_true rfl) ⟨by decide, by decide⟩ (Nat.le_of_ble_eq_true rfl) (c_X5_isStreet _ ?_)
    refine x_ifeqP (tgt := 48) dX5_stretch_4 rfl (fun h4 => ?_) (fun h4 => ?_)
    · skip
      refine x_aload_n (i := 0) dX5_stretch_48 rfl rfl ?_
      refine x_iconstN (n := 0) dX5_stretch_49 ?_
      refine x_v1i dX5_stretch_50 okX5_no ml_X5_118 rfl rfl (Nat.le_of_ble_eq_true rfl) ⟨by decide, by decide⟩ (Nat.le_of_ble_eq_true rfl) (c_X5_no hS 0 (by decide) (fun τ hτ => ?_))
      exact x_ireti dX5_stretch_53 rfl (hk τ hτ)
    · skip
      refine x_iload_n (i := 2) dX5_stretch_7 rfl rfl ?_
      refine x_s1i dX5_stretch_8 okX5_isStretch ml_X5_115 (Nat.le_of_ble_eq_true rfl) ⟨by decide, by decide⟩ (Nat.le_of_ble_eq_true rfl) (c_X5_isStretch _ ?_)
      refine x_ifeqP (tgt := 48) dX5_stretch_11 rfl (fun h11 => ?_) (fun h11 => ?_)
      · skip
        refine x_aload_n (i := 0) dX5_stretch_48 rfl rfl ?_
        refine x_iconstN (n := 0) dX5_stretch_49 ?_
        refine x_v1i dX5_stretch_50 okX5_no ml_X5_118 rfl rfl (Nat.le_of_ble_eq_true rfl) ⟨by decide, by decide⟩ (Nat.le_of_ble_eq_true rfl) (c_X5_no hS 0 (by decide) (fun τ hτ => ?_))
        exact x_ireti dX5_stretch_53 rfl (hk τ hτ)
      · skip
        refine x_iload_n (i := 3) dX5_stretch_14 rfl rfl ?_
        refine x_iconstN (n := 0) dX5_stretch_15 ?_
        refine x_iconstN (n := 1) dX5_stretch_16 ?_
        refine x_s3i dX5_stretch_17 okX5_in1 ml_X5_52 (Nat.le_of_ble_eq_true rfl) ⟨by decide, by decide⟩ (Nat.le_of_ble_eq_true rfl) (c_X5_in1 _ _ _ ?_)
        refine x_ifeqP (tgt := 48) dX5_stretch_20 rfl (fun h20 => ?_) (fun h20 => ?_)
        · skip
          refine x_aload_n (i := 0) dX5_stretch_48 rfl rfl ?_
          refine x_iconstN (n := 0) dX5_stretch_49 ?_
          refine x_v1i dX5_stretch_50 okX5_no ml_X5_118 rfl rfl (Nat.le_of_ble_eq_true rfl) ⟨by decide, by decide⟩ (Nat.le_of_ble_eq_true rfl) (c_X5_no hS 0 (by decide) (fun τ hτ => ?_))
          exact x_ireti dX5_stretch_53 rfl (hk τ hτ)
        · exact absurd ⟨⟨h4, h11⟩, h20⟩ hc
theorem ms_one {σ : xH} {c p : Nat} {T U : Tw} (h : ms σ c T) (v : Int32) (hn : tN U = tN T) (h0 : (xpi σ c p v).1 c 0 = tDay U) (h1 : (xpi σ c p v).1 c 1 = tIn U) (hp : p ≠ 2) (hth : ∀ i, i < 60 → (xpi σ c p v).1 c (3 + i) = tTh U i) (hag : ∀ i, i < 60 → (xpi σ c p v).1 c (63 + i) = tAg U i) (hd : ∀ d, d < tN T → (xpi σ c p v).1 c (123 + 3 * d) = tKd U d ∧ (xpi σ c p v).1 c (123 + 3 * d + 1) = tWs U d ∧ (xpi σ c p v).1 c (123 + 3 * d + 2) = nI (tGo U d) ∧ tGo U d < 3) : ms (xpi σ c p v) c U :=
  ⟨h0, h1, by rw [xui_s]; unfold upd; rw [if_neg (fun z => hp z.symm), hn]; exact h.2.2.1, hth, hag, fun d e => (hd d (hn ▸ e)).1, fun d e => (hd d (hn ▸ e)).2.1, fun d e => (hd d (hn ▸ e)).2.2.1, by rw [hn]; exact ms_8 h, fun d e => (hd d (hn ▸ e)).2.2.2⟩
theorem xp_o {σ : xH} {c p q : Nat} {v : Int32} (h : q ≠ p) : (xpi σ c p v).1 c q = σ.1 c q := by simp [xui, upd, h]
theorem xp_s {σ : xH} {c p : Nat} {v : Int32} : (xpi σ c p v).1 c p = v := by simp [xui, upd]
theorem ms_setIn {σ : xH} {c : Nat} {T : Tw} (h : ms σ c T) (v : Int32) : ms (xpi σ c 1 v) c (setIn T v) :=
  ms_one (U := setIn T v) h v rfl (by rw [xp_o (by omega)]; exact ms_day (T := T) h) xp_s (by omega) (fun i hi => by rw [xp_o (by omega)]; exact ms_th (T := T) h hi) (fun i hi => by rw [xp_o (by omega)]; exact ms_ag (T := T) h hi) (fun d hd => ⟨by rw [xp_o (by omega)]; exact ms_kd (T := T) h hd, by rw [xp_o (by omega)]; exact ms_ws (T := T) h hd, by rw [xp_o (by omega)]; exact ms_go (T := T) h hd, ms_g3 (T := T) h hd⟩)
theorem ms_setKd {σ : xH} {c : Nat} {T : Tw} (h : ms σ c T) (e : Nat) (v : Int32) : ms (xpi σ c (123 + 3 * e + 0) v) c (setKd T e v) :=
  ms_one (U := setKd T e v) h v rfl (by rw [xp_o (by omega)]; exact ms_day (T := T) h) (by rw [xp_o (by omega)]; exact ms_in (T := T) h) (by omega) (fun i hi => by rw [xp_o (by omega)]; exact ms_th (T := T) h hi) (fun i hi => by rw [xp_o (by omega)]; exact ms_ag (T := T) h hi) (fun d hd => ⟨by
    show _ = upd (tKd T) e v d
    by_cases g : d = e
    · subst g; simp [xui, upd]
    · rw [xp_o (by omega), upd, if_neg g]; exact ms_kd (T := T) h hd, by rw [xp_o (by omega)]; exact ms_ws (T := T) h hd, by rw [xp_o (by omega)]; exact ms_go (T := T) h hd, ms_g3 (T := T) h hd⟩)
theorem ms_setWs {σ : xH} {c : Nat} {T : Tw} (h : ms σ c T) (e : Nat) (v : Int32) : ms (xpi σ c (123 + 3 * e + 1) v) c (setWs T e v) :=
  ms_one (U := setWs T e v) h v rfl (by rw [xp_o (by omega)]; exact ms_day (T := T) h) (by rw [xp_o (by omega)]; exact ms_in (T := T) h) (by omega) (fun i hi => by rw [xp_o (by omega)]; exact ms_th (T := T) h hi) (fun i hi => by rw [xp_o (by omega)]; exact ms_ag (T := T) h hi) (fun d hd => ⟨by rw [xp_o (by omega)]; exact ms_kd (T := T) h hd, by
    show _ = upd (tWs T) e v d
    by_cases g : d = e
    · subst g; simp [xui, upd]
    · rw [xp_o (by omega), upd, if_neg g]; exact ms_ws (T := T) h hd, by rw [xp_o (by omega)]; exact ms_go (T := T) h hd, ms_g3 (T := T) h hd⟩)
theorem ms_add {σ : xH} {c : Nat} {T : Tw} (h : ms σ c T) (hn : tN T < 8) (k : Int32) : ms (xpi (xpi (xpi (xpi σ c (123 + 3 * tN T + 0) k) c (123 + 3 * tN T + 1) (nI 40)) c (123 + 3 * tN T + 2) (nI 0)) c 2 (nI (tN T + 1))) c (addT T k) := by
  have key : ∀ q, q ≠ 2 → q ≠ 123 + 3 * tN T + 0 → q ≠ 123 + 3 * tN T + 1 → q ≠ 123 + 3 * tN T + 2 → (xpi (xpi (xpi (xpi σ c (123 + 3 * tN T + 0) k) c (123 + 3 * tN T + 1) (nI 40)) c (123 + 3 * tN T + 2) (nI 0)) c 2 (nI (tN T + 1))).1 c q = σ.1 c q := fun q a b d e => by rw [xp_o a, xp_o e, xp_o d, xp_o b]
  refine ⟨by rw [key _ (by omega) (by omega) (by omega) (by omega)]; exact ms_day (T := T) h, by rw [key _ (by omega) (by omega) (by omega) (by omega)]; exact ms_in (T := T) h, xp_s, fun i hi => by rw [key _ (by omega) (by omega) (by omega) (by omega)]; exact ms_th (T := T) h hi, fun i hi => by rw [key _ (by omega) (by omega) (by omega) (by omega)]; exact ms_ag (T := T) h hi, fun d hd => ?_, fun d hd => ?_, fun d hd => ?_, hn, fun d hd => ?_⟩
  · have hd : d < tN T + 1 := hd
    show _ = upd (tKd T) (tN T) k d
    by_cases g : d = tN T
    · subst g; rw [upd, if_pos rfl, xp_o (by omega), xp_o (by omega), xp_o (by omega)]; exact xp_s
    · rw [key _ (by omega) (by omega) (by omega) (by omega), upd, if_neg g]; exact ms_kd (T := T) h (by omega)
  · have hd : d < tN T + 1 := hd
    show _ = upd (tWs T) (tN T) (nI 40) d
    by_cases g : d = tN T
    · subst g; rw [upd, if_pos rfl, xp_o (by omega), xp_o (by omega)]; exact xp_s
    · rw [key _ (by omega) (by omega) (by omega) (by omega), upd, if_neg g]; exact ms_ws (T := T) h (by omega)
  · have hd : d < tN T + 1 := hd
    show _ = nI (updn (tGo T) (tN T) 0 d)
    by_cases g : d = tN T
    · subst g; rw [updn, if_pos rfl, xp_o (by omega)]; exact xp_s
    · rw [key _ (by omega) (by omega) (by omega) (by omega), updn, if_neg g]; exact ms_go (T := T) h (by omega)
  · have hd : d < tN T + 1 := hd
    show updn (tGo T) (tN T) 0 d < 3
    by_cases g : d = tN T
    · rw [updn, if_pos g]; omega
    · rw [updn, if_neg g]; exact ms_g3 (T := T) h (by omega)
set_option maxHeartbeats 4000000 in
set_option maxRecDepth 20000 in
theorem c_X5_high {σ : xH} {K : Int32 → xH → Prop} {S : St} (hS : mS σ S) (hO : tOk (gT S)) (v : Int32) (hk : ∀ τ, mS τ (oHigh S v).2 → K (oHigh S v).1 τ) : Evi l (oM ad D cy) mX5_high [.ref 0, .int v] σ K := by
  have hs := hS.1
  have h8 := ms_8 hs
  refine x_enter (ls := [some (.ref 0), some (.int v), none]) rfl ?_
  by_cases hc : vR (nI 1) (nI 6) v
  · unfold oHigh at hk
    rw [if_pos hc] at hk
    refine x_iload_n (i := 1) dX5_high_0 rfl rfl ?_
    refine x_iconstN (n := 1) dX5_high_1 ?_
    refine x_bipush (v := nI 6) dX5_high_2 (by decide) ?_
    refine x_s3i dX5_high_4 okX5_in1 ml_X5_52 (Nat.le_of_ble_eq_true rfl) ⟨by decide, by decide⟩ (Nat.le_of_ble_eq_true rfl) (c_X5_in1 _ _ _ ?_)
    refine x_ifneP (tgt := 16) dX5_high_7 rfl (fun h7 => ?_) (fun h7 => ?_)
    · skip
      refine x_aload_n (i := 0) dX5_high_16 rfl rfl ?_
      refine x_getr (i := 0) dX5_high_17 rfl rfl rfl (by decide) fl_X5_9 inX5 ?_
      refine x_iconstN (n := 1) dX5_high_20 ?_
      refine x_ialdE dX5_high_21 rfl (by omega) (by decide) (ms_in hs) ?_
      refine y_istore_n (i := 2) (ls2 := [_, _, _]) dX5_high_22 rfl (by decide) rfl rfl ?_
      refine x_aload_n (i := 0) dX5_high_23 rfl rfl ?_
      refine x_getr (i := 0) dX5_high_24 rfl rfl rfl (by decide) fl_X5_9 inX5 ?_
      refine x_iconstN (n := 1) dX5_high_27 ?_
      refine x_iload_n (i := 1) dX5_high_28 rfl rfl ?_
      refine x_iastN dX5_high_29 rfl (by omega) (by decide) ?_
      refine x_iload_n (i := 2) dX5_high_30 rfl rfl ?_
      exact x_ireti dX5_high_31 rfl (hk _ (mS_g hS fg_1 (ms_setIn hs _)))
    · exact absurd hc h7
  · unfold oHigh at hk
    rw [if_neg hc] at hk
    refine x_iload_n (i := 1) dX5_high_0 rfl rfl ?_
    refine x_iconstN (n := 1) dX5_high_1 ?_
    refine x_bipush (v := nI 6) dX5_high_2 (by decide) ?_
    refine x_s3i dX5_high_4 okX5_in1 ml_X5_52 (Nat.le_of_ble_eq_true rfl) ⟨by decide, by decide⟩ (Nat.le_of_ble_eq_true rfl) (c_X5_in1 _ _ _ ?_)
    refine x_ifneP (tgt := 16) dX5_high_7 rfl (fun h7 => ?_) (fun h7 => ?_)
    · exact absurd h7 hc
    · skip
      refine x_aload_n (i := 0) dX5_high_10 rfl rfl ?_
      refine x_iconstN (n := 0) dX5_high_11 ?_
      refine x_v1i dX5_high_12 okX5_no ml_X5_118 rfl rfl (Nat.le_of_ble_eq_true rfl) ⟨by decide, by decide⟩ (Nat.le_of_ble_eq_true rfl) (c_X5_no hS 0 (by decide) (fun τ hτ => ?_))
      exact x_ireti dX5_high_15 rfl (hk τ hτ)
set_option maxHeartbeats 4000000 in
set_option maxRecDepth 20000 in
theorem c_X5_addsDriver {σ : xH} {K : xH → Prop} {T : Tw} (hs : ms σ 1 T) (hn : tN T < 8) (k : Int32) (hk : ∀ τ, ms τ 1 (addT T k) → fg σ τ → K τ) : Evv l (oM ad D cy) mX5_addsDriver [.ref 0, .int k] σ K := by
  refine x_enter (ls := [some (.ref 0), some (.int k), none]) rfl ?_
  refine x_aload_n (i := 0) dX5_addsDriver_0 rfl rfl ?_
  refine x_getr (i := 0) dX5_addsDriver_1 rfl rfl rfl (by decide) fl_X5_9 inX5 ?_
  refine x_iconstN (n := 2) dX5_addsDriver_4 ?_
  refine x_ialdE dX5_addsDriver_5 rfl (by omega) (by decide) (ms_n hs) ?_
  refine y_istore_n (i := 2) (ls2 := [_, _, _]) dX5_addsDriver_6 rfl (by decide) rfl rfl ?_
  refine x_aload_n (i := 0) dX5_addsDriver_7 rfl rfl ?_
  refine x_iload_n (i := 2) dX5_addsDriver_8 rfl rfl ?_
  refine x_iconstN (n := 0) dX5_addsDriver_9 ?_
  refine x_iload_n (i := 1) dX5_addsDriver_10 rfl rfl ?_
  refine x_v3v dX5_addsDriver_11 okX5_puts ml_X5_105 rfl rfl (Nat.le_of_ble_eq_true rfl) ⟨by decide, by decide⟩ (Nat.le_of_ble_eq_true rfl) (c_X5_puts (by omega) (by decide) _ ?_)
  refine x_aload_n (i := 0) dX5_addsDriver_14 rfl rfl ?_
  refine x_iload_n (i := 2) dX5_addsDriver_15 rfl rfl ?_
  refine x_iconstN (n := 1) dX5_addsDriver_16 ?_
  refine x_bipush (v := nI 40) dX5_addsDriver_17 (by decide) ?_
  refine x_v3v dX5_addsDriver_19 okX5_puts ml_X5_105 rfl rfl (Nat.le_of_ble_eq_true rfl) ⟨by decide, by decide⟩ (Nat.le_of_ble_eq_true rfl) (c_X5_puts (by omega) (by decide) _ ?_)
  refine x_aload_n (i := 0) dX5_addsDriver_22 rfl rfl ?_
  refine x_iload_n (i := 2) dX5_addsDriver_23 rfl rfl ?_
  refine x_iconstN (n := 2) dX5_addsDriver_24 ?_
  refine x_iconstN (n := 0) dX5_addsDriver_25 ?_
  refine x_v3v dX5_addsDriver_26 okX5_puts ml_X5_105 rfl rfl (Nat.le_of_ble_eq_true rfl) ⟨by decide, by decide⟩ (Nat.le_of_ble_eq_true rfl) (c_X5_puts (by omega) (by decide) _ ?_)
  refine x_aload_n (i := 0) dX5_addsDriver_29 rfl rfl ?_
  refine x_getr (i := 0) dX5_addsDriver_30 rfl rfl rfl (by decide) fl_X5_9 inX5 ?_
  refine x_iconstN (n := 2) dX5_addsDriver_33 ?_
  refine x_dup2 dX5_addsDriver_34 rfl rfl ?_
  refine x_ialdE dX5_addsDriver_35 rfl (by omega) (by decide) (show _ = nI (tN T) by rw [xp_o (by omega), xp_o (by omega), xp_o (by omega)]; exact ms_n hs) ?_
  refine x_iconstN (n := 1) dX5_addsDriver_36 ?_
  refine x_iaddN dX5_addsDriver_37 ?_
  refine x_iastN dX5_addsDriver_38 rfl (by omega) (by decide) ?_
  exact x_retv dX5_addsDriver_39 rfl (hk _ (ms_add hs hn k) (fg_tr fg_1 (fg_tr fg_1 (fg_tr fg_1 fg_1))))
set_option maxHeartbeats 4000000 in
set_option maxRecDepth 20000 in
theorem c_X5_driver {σ : xH} {K : Int32 → xH → Prop} {S : St} (hS : mS σ S) (hO : tOk (gT S)) (k : Int32) (hk : ∀ τ, mS τ (oDriver S k).2 → K (oDriver S k).1 τ) : Evi l (oM ad D cy) mX5_driver [.ref 0, .int k] σ K := by
  have hs := hS.1
  have h8 := ms_8 hs
  refine x_enter (ls := [some (.ref 0), some (.int k)]) rfl ?_
  by_cases hc : vN 6 k
  · unfold oDriver at hk
    rw [if_pos hc] at hk
    refine x_iload_n (i := 1) dX5_driver_0 rfl rfl ?_
    refine x_iconstN (n := 0) dX5_driver_1 ?_
    refine x_iconstN (n := 5) dX5_driver_2 ?_
    refine x_s3i dX5_driver_3 okX5_in1 ml_X5_52 (Nat.le_of_ble_eq_true rfl) ⟨by decide, by decide⟩ (Nat.le_of_ble_eq_true rfl) (c_inN (n := 5) (by decide) _ ?_)
    refine x_ifneP (tgt := 15) dX5_driver_6 rfl (fun h6 => ?_) (fun h6 => ?_)
    · skip
      refine x_aload_n (i := 0) dX5_driver_15 rfl rfl ?_
      refine x_getr (i := 0) dX5_driver_16 rfl rfl rfl (by decide) fl_X5_9 inX5 ?_
      refine x_iconstN (n := 2) dX5_driver_19 ?_
      refine x_ialdE dX5_driver_20 rfl (by omega) (by decide) (ms_n hs) ?_
      refine x_bipush (v := nI 8) dX5_driver_21 (by decide) ?_
      refine x_icneN (tgt := 32) (by omega) (by omega) dX5_driver_23 rfl (fun h23 => ?_) (fun h23 => ?_)
      · skip
        refine x_aload_n (i := 0) dX5_driver_32 rfl rfl ?_
        refine x_iload_n (i := 1) dX5_driver_33 rfl rfl ?_
        refine x_v1v dX5_driver_34 okX5_addsDriver ml_X5_137 rfl rfl (Nat.le_of_ble_eq_true rfl) ⟨by decide, by decide⟩ (Nat.le_of_ble_eq_true rfl) (c_X5_addsDriver hs (by omega) _ (fun τ hw1 hf1 => ?_))
        refine x_aload_n (i := 0) dX5_driver_37 rfl rfl ?_
        refine x_getr (i := 0) dX5_driver_38 rfl rfl rfl (by decide) fl_X5_9 inX5 ?_
        refine x_iconstN (n := 2) dX5_driver_41 ?_
        refine x_ialdE dX5_driver_42 rfl (by omega) (by decide) (ms_n hw1) ?_
        refine x_iconstN (n := 1) dX5_driver_43 ?_
        refine x_isub dX5_driver_44 ?_
        exact x_ireti dX5_driver_45 rfl (by rw [if_pos (by omega)] at hk; rw [show nI (tN (addT (gT S) k)) - nI 1 = nI (tN (gT S)) from nI_pred _]; exact hk τ (mS_g hS hf1 hw1))
      · skip
        refine x_aload_n (i := 0) dX5_driver_26 rfl rfl ?_
        refine x_iconstN (n := 1) dX5_driver_27 ?_
        refine x_v1i dX5_driver_28 okX5_no ml_X5_118 rfl rfl (Nat.le_of_ble_eq_true rfl) ⟨by decide, by decide⟩ (Nat.le_of_ble_eq_true rfl) (c_X5_no hS 1 (by decide) (fun τ hτ => ?_))
        exact x_ireti dX5_driver_31 rfl (by rw [if_neg (by omega)] at hk; exact hk τ hτ)
    · exact absurd hc h6
  · unfold oDriver at hk
    rw [if_neg hc] at hk
    refine x_iload_n (i := 1) dX5_driver_0 rfl rfl ?_
    refine x_iconstN (n := 0) dX5_driver_1 ?_
    refine x_iconstN (n := 5) dX5_driver_2 ?_
    refine x_s3i dX5_driver_3 okX5_in1 ml_X5_52 (Nat.le_of_ble_eq_true rfl) ⟨by decide, by decide⟩ (Nat.le_of_ble_eq_true rfl) (c_inN (n := 5) (by decide) _ ?_)
    refine x_ifneP (tgt := 15) dX5_driver_6 rfl (fun h6 => ?_) (fun h6 => ?_)
    · exact absurd h6 hc
    · skip
      refine x_aload_n (i := 0) dX5_driver_9 rfl rfl ?_
      refine x_iconstN (n := 0) dX5_driver_10 ?_
      refine x_v1i dX5_driver_11 okX5_no ml_X5_118 rfl rfl (Nat.le_of_ble_eq_true rfl) ⟨by decide, by decide⟩ (Nat.le_of_ble_eq_true rfl) (c_X5_no hS 0 (by decide) (fun τ hτ => ?_))
      exact x_ireti dX5_driver_14 rfl (hk τ hτ)
set_option maxHeartbeats 4000000 in
set_option maxRecDepth 20000 in
theorem c_X5_now {σ : xH} {K : Int32 → xH → Prop} {S : St} (hS : mS σ S) (hO : tOk (gT S)) (c : Int32) (hk : ∀ τ, mS τ (oNow S c).2 → K (oNow S c).1 τ) : Evi l (oM ad D cy) mX5_now [.ref 0, .int c] σ K := by
  have hs := hS.1
  have h8 := ms_8 hs
  refine x_enter (ls := [some (.ref 0), some (.int c)]) rfl ?_
  unfold oNow at hk
  refine x_iload_n (i := 1) dX5_now_0 rfl rfl ?_
  refine x_tsw4 (nI 0) (nI 1) (nI 2) (nI 3) 32 39 46 51 56 dX5_now_1 (by decide) (by decide) (fun h1 => ?_) (fun h1 => ?_) (fun h1 => ?_) (fun h1 => ?_) (fun h1_0 h1_1 h1_2 h1_3 => ?_)
  · skip
    refine x_aload_n (i := 0) dX5_now_32 rfl rfl ?_
    refine x_getr (i := 0) dX5_now_33 rfl rfl rfl (by decide) fl_X5_9 inX5 ?_
    refine x_iconstN (n := 0) dX5_now_36 ?_
    refine x_ialdE dX5_now_37 rfl (by omega) (by decide) (ms_day hs) ?_
    exact x_ireti dX5_now_38 rfl (by subst h1; first | exact hk σ hS | exact hk τ (mS_q hS hf1))
  · skip
    refine x_aload_n (i := 0) dX5_now_39 rfl rfl ?_
    refine x_getr (i := 0) dX5_now_40 rfl rfl rfl (by decide) fl_X5_9 inX5 ?_
    refine x_iconstN (n := 1) dX5_now_43 ?_
    refine x_ialdE dX5_now_44 rfl (by omega) (by decide) (ms_in hs) ?_
    exact x_ireti dX5_now_45 rfl (by subst h1; first | exact hk σ hS | exact hk τ (mS_q hS hf1))
  · skip
    refine x_aload_n (i := 0) dX5_now_46 rfl rfl ?_
    refine x_v0i dX5_now_47 okX5_allShook ml_X5_130 rfl rfl (Nat.le_of_ble_eq_true rfl) ⟨by decide, by decide⟩ (Nat.le_of_ble_eq_true rfl) (c_X5_allShook hO hs (fun τ hf1 => ?_))
    exact x_ireti dX5_now_50 rfl (by subst h1; first | exact hk σ hS | exact hk τ (mS_q hS hf1))
  · skip
    refine x_aload_n (i := 0) dX5_now_51 rfl rfl ?_
    refine x_v0i dX5_now_52 okX5_allTook ml_X5_134 rfl rfl (Nat.le_of_ble_eq_true rfl) ⟨by decide, by decide⟩ (Nat.le_of_ble_eq_true rfl) (c_X5_allTook hO hs (fun τ hf1 => ?_))
    exact x_ireti dX5_now_55 rfl (by subst h1; first | exact hk σ hS | exact hk τ (mS_q hS hf1))
  · skip
    refine x_aload_n (i := 0) dX5_now_56 rfl rfl ?_
    refine x_iconstN (n := 0) dX5_now_57 ?_
    refine x_v1i dX5_now_58 okX5_no ml_X5_118 rfl rfl (Nat.le_of_ble_eq_true rfl) ⟨by decide, by decide⟩ (Nat.le_of_ble_eq_true rfl) (c_X5_no hS 0 (by decide) (fun τ hτ => ?_))
    exact x_ireti dX5_now_61 rfl (by rw [if_neg h1_0, if_neg h1_1, if_neg h1_2, if_neg h1_3] at hk; exact hk τ hτ)
set_option maxHeartbeats 4000000 in
set_option maxRecDepth 20000 in
theorem c_X5_turn {σ : xH} {K : Int32 → xH → Prop} {S : St} (hS : mS σ S) (hO : tOk (gT S)) (d k : Int32) (hk : ∀ τ, mS τ (oTurn S d k).2 → K (oTurn S d k).1 τ) : Evi l (oM ad D cy) mX5_turn [.ref 0, .int d, .int k] σ K := by
  have hs := hS.1
  have h8 := ms_8 hs
  refine x_enter (ls := [some (.ref 0), some (.int d), some (.int k), none]) rfl ?_
  by_cases hc : vN (tN (gT S)) d ∧ vN 6 k
  · unfold oTurn at hk
    rw [if_pos hc] at hk
    obtain ⟨d, hd, rfl⟩ := vN_of hc.1 (by omega)
    have hg := ms_g3 hs hd
    have h8d : d < 2 ^ 31 := by omega
    simp only [cn, nI_clamp h8d] at hk
    refine x_aload_n (i := 0) dX5_turn_0 rfl rfl ?_
    refine x_iload_n (i := 1) dX5_turn_1 rfl rfl ?_
    refine x_v1i dX5_turn_2 okX5_isDriver ml_X5_140 rfl rfl (Nat.le_of_ble_eq_true rfl) ⟨by decide, by decide⟩ (Nat.le_of_ble_eq_true rfl) (c_X5_isDriver hs _ ?_)
    refine x_ifeqP (tgt := 17) dX5_turn_5 rfl (fun h5 => ?_) (fun h5 => ?_)
    · exact absurd hc.1 h5
    · skip
      refine x_iload_n (i := 2) dX5_turn_8 rfl rfl ?_
      refine x_iconstN (n := 0) dX5_turn_9 ?_
      refine x_iconstN (n := 5) dX5_turn_10 ?_
      refine x_s3i dX5_turn_11 okX5_in1 ml_X5_52 (Nat.le_of_ble_eq_true rfl) ⟨by decide, by decide⟩ (Nat.le_of_ble_eq_true rfl) (c_inN (n := 5) (by decide) _ ?_)
      refine x_ifneP (tgt := 23) dX5_turn_14 rfl (fun h14 => ?_) (fun h14 => ?_)
      · skip
        refine x_aload_n (i := 0) dX5_turn_23 rfl rfl ?_
        refine x_iload_n (i := 1) dX5_turn_24 rfl rfl ?_
        refine x_iconstN (n := 0) dX5_turn_25 ?_
        refine x_v2i dX5_turn_26 okX5_get ml_X5_92 rfl rfl (Nat.le_of_ble_eq_true rfl) ⟨by decide, by decide⟩ (Nat.le_of_ble_eq_true rfl) (c_get0 hs (by omega) ?_)
        refine y_istore_n (i := 3) (ls2 := [_, _, _, _]) dX5_turn_29 rfl (by decide) rfl rfl ?_
        refine x_aload_n (i := 0) dX5_turn_30 rfl rfl ?_
        refine x_iload_n (i := 1) dX5_turn_31 rfl rfl ?_
        refine x_iconstN (n := 0) dX5_turn_32 ?_
        refine x_iload_n (i := 2) dX5_turn_33 rfl rfl ?_
        refine x_v3v dX5_turn_34 okX5_puts ml_X5_105 rfl rfl (Nat.le_of_ble_eq_true rfl) ⟨by decide, by decide⟩ (Nat.le_of_ble_eq_true rfl) (c_X5_puts (by omega) (by decide) _ ?_)
        refine x_iload_n (i := 3) dX5_turn_37 rfl rfl ?_
        exact x_ireti dX5_turn_38 rfl (hk _ (mS_g hS fg_1 (ms_setKd hs _ _)))
      · exact absurd hc.2 h14
  · unfold oTurn at hk
    rw [if_neg hc] at hk
    refine x_aload_n (i := 0) dX5_turn_0 rfl rfl ?_
    refine x_iload_n (i := 1) dX5_turn_1 rfl rfl ?_
    refine x_v1i dX5_turn_2 okX5_isDriver ml_X5_140 rfl rfl (Nat.le_of_ble_eq_true rfl) ⟨by decide, by decide⟩ (Nat.le_of_ble_eq_true rfl) (c_X5_isDriver hs _ ?_)
    refine x_ifeqP (tgt := 17) dX5_turn_5 rfl (fun h5 => ?_) (fun h5 => ?_)
    · skip
      refine x_aload_n (i := 0) dX5_turn_17 rfl rfl ?_
      refine x_iconstN (n := 0) dX5_turn_18 ?_
      refine x_v1i dX5_turn_19 okX5_no ml_X5_118 rfl rfl (Nat.le_of_ble_eq_true rfl) ⟨by decide, by decide⟩ (Nat.le_of_ble_eq_true rfl) (c_X5_no hS 0 (by decide) (fun τ hτ => ?_))
      exact x_ireti dX5_turn_22 rfl (hk τ hτ)
    · skip
      refine x_iload_n (i := 2) dX5_turn_8 rfl rfl ?_
      refine x_iconstN (n := 0) dX5_turn_9 ?_
      refine x_iconstN (n := 5) dX5_turn_10 ?_
      refine x_s3i dX5_turn_11 okX5_in1 ml_X5_52 (Nat.le_of_ble_eq_true rfl) ⟨by decide, by decide⟩ (Nat.le_of_ble_eq_true rfl) (c_inN (n := 5) (by decide) _ ?_)
      refine x_ifneP (tgt := 23) dX5_turn_14 rfl (fun h14 => ?_) (fun h14 => ?_)
      · exact absurd ⟨h5, h14⟩ hc
      · skip
        refine x_aload_n (i := 0) dX5_turn_17 rfl rfl ?_
        refine x_iconstN (n := 0) dX5_turn_18 ?_
        refine x_v1i dX5_turn_19 okX5_no ml_X5_118 rfl rfl (Nat.le_of_ble_eq_true rfl) ⟨by decide, by decide⟩ (Nat.le_of_ble_eq_true rfl) (c_X5_no hS 0 (by decide) (fun τ hτ => ?_))
        exact x_ireti dX5_turn_22 rfl (hk τ hτ)
end
