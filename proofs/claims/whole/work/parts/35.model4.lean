section
variable {l : Launch} {ad : Nat → Nat} {D : va_G} {cy : Nat → ClassId}
theorem tri14 {t : Int32} (h : vR (nI 1) (nI 4) t) : t = nI 1 ∨ t = nI 2 ∨ t = nI 3 ∨ t = nI 4 := by
  obtain ⟨j, h1, h4, rfl⟩ := vR_of h (by decide) (by decide)
  match j, h1, h4 with
  | 1, _, _ => exact Or.inl rfl
  | 2, _, _ => exact Or.inr (Or.inl rfl)
  | 3, _, _ => exact Or.inr (Or.inr (Or.inl rfl))
  | 4, _, _ => exact Or.inr (Or.inr (Or.inr rfl))
theorem daysM_n (T : Tw) : ∀ m, tN (daysM T m) = tN T := by
  intro m
  induction m with
  | zero => rfl
  | succ m ih => exact ih
theorem mS_back {σ τ υ ω : xH} {S : St} (hS : mS σ S) (h1 : ∀ j, j < 147 → τ.1 3 j = σ.1 1 j) (f1 : fc 3 σ τ) (f2 : fg τ υ) (h3 : ∀ j, j < 147 → ω.1 1 j = υ.1 3 j) (f3 : fc 1 υ ω) : mS ω S :=
  mS_h0 hS (fh_tr (fc_fh f1 (Or.inr rfl)) (fh_tr (fg_fh f2) (fc_fh f3 (Or.inl rfl)))) (ms_keep hS.1 (fun i hi => by rw [h3 i hi, f2.2.1 3 (by omega) (by omega) (by omega), h1 i hi]))
theorem mS_back2 {σ τ ω : xH} {S : St} (hS : mS σ S) (h1 : ∀ j, j < 147 → τ.1 3 j = σ.1 1 j) (f1 : fc 3 σ τ) (h3 : ∀ j, j < 147 → ω.1 1 j = τ.1 3 j) (f3 : fg τ ω) : mS ω S :=
  mS_h0 hS (fh_tr (fc_fh f1 (Or.inr rfl)) (fg_fh f3)) (ms_keep hS.1 (fun i hi => by rw [h3 i hi, h1 i hi]))
theorem ms_fc {σ τ : xH} {T : Tw} (h : ms σ 1 T) (f : fc 3 σ τ) : ms τ 1 T := ms_keep h (fun i _ => by rw [f.2 1 (by omega)])
theorem fc_fg {σ τ : xH} (f : fc 1 σ τ) : fg σ τ := ⟨f.1, fun q _ h1 _ => f.2 q h1, fun i _ _ => by rw [f.2 0 (by omega)]⟩
theorem mS_tape {σ τ : xH} {S : St} (h : mS σ S) {n : Nat} {b : Nat → Int32} (e2 : τ.2 = σ.2) (ek : ∀ q, q ≠ 0 → q ≠ 6 → τ.1 q = σ.1 q) (e0 : ∀ i, i ≠ 9 → τ.1 0 i = σ.1 0 i) (en : τ.1 0 9 = nI n) (eb : ∀ i, i < n → τ.1 6 i = b i) (hn : n ≤ 120) : mS τ (pTape S n b) := by
  obtain ⟨h1, h2, h3, h4, h5, h6, h7, h8, h9⟩ := h
  refine ⟨ms_keep h1 (fun i _ => by rw [ek 1 (by omega) (by omega)]), by rw [e0 3 (by omega)]; exact h2, fun U hU => ms_keep (h3 U hU) (fun i _ => by rw [ek 2 (by omega) (by omega)]), en, eb, hn, fun j hj => ?_, fun i hi => by rw [ek 4 (by omega) (by omega)]; exact h8 i hi, ?_⟩
  · obtain ⟨g1, g2, g3, g4⟩ := h7 j hj
    exact ⟨by rw [ek 10 (by omega) (by omega)]; exact g1, by rw [ek 11 (by omega) (by omega)]; exact g2, by rw [e2]; exact g3, g4⟩
  · exact ⟨fun i hi => by rw [ek 7 (by omega) (by omega)]; exact h9.1 i hi, fun i hi => by rw [ek 8 (by omega) (by omega)]; exact h9.2.1 i hi, fun i hi => by rw [ek 9 (by omega) (by omega)]; exact h9.2.2 i hi⟩
theorem mS_kept {σ τ : xH} {S : St} (h : mS σ S) {k : Option Tw} (e2 : τ.2 = σ.2) (ek : ∀ q, q ≠ 0 → q ≠ 2 → τ.1 q = σ.1 q) (e0 : ∀ i, i ≠ 3 → τ.1 0 i = σ.1 0 i) (en : τ.1 0 3 = xb (k.isSome = true)) (eb : ∀ U, k = some U → ms τ 2 U) : mS τ (pK S k) := by
  obtain ⟨h1, h2, h3, h4, h5, h6, h7, h8, h9⟩ := h
  refine ⟨ms_keep h1 (fun i _ => by rw [ek 1 (by omega) (by omega)]), en, eb, by rw [e0 9 (by omega)]; exact h4, fun i hi => by rw [ek 6 (by omega) (by omega)]; exact h5 i hi, h6, fun j hj => ?_, fun i hi => by rw [ek 4 (by omega) (by omega)]; exact h8 i hi, ?_⟩
  · obtain ⟨g1, g2, g3, g4⟩ := h7 j hj
    exact ⟨by rw [ek 10 (by omega) (by omega)]; exact g1, by rw [ek 11 (by omega) (by omega)]; exact g2, by rw [e2]; exact g3, g4⟩
  · exact ⟨fun i hi => by rw [ek 7 (by omega) (by omega)]; exact h9.1 i hi, fun i hi => by rw [ek 8 (by omega) (by omega)]; exact h9.2.1 i hi, fun i hi => by rw [ek 9 (by omega) (by omega)]; exact h9.2.2 i hi⟩
set_option maxHeartbeats 4000000 in
set_option maxRecDepth 20000 in
theorem c_X5_of {σ : xH} {K : Int32 → xH → Prop} {S : St} (hS : mS σ S) (hO : tOk (gT S)) (d c : Int32) (hk : ∀ τ, mS τ (oOf S d c).2 → K (oOf S d c).1 τ) : Evi l (oM ad D cy) mX5_of [.ref 0, .int d, .int c] σ K := by
  have hs := hS.1
  have h8 := ms_8 hs
  refine x_enter (ls := [some (.ref 0), some (.int d), some (.int c)]) rfl ?_
  by_cases hc : vN (tN (gT S)) d
  · unfold oOf at hk
    rw [if_pos hc] at hk
    obtain ⟨d, hd, rfl⟩ := vN_of hc (by omega)
    have hg := ms_g3 hs hd
    have h8d : d < 2 ^ 31 := by omega
    simp only [cn, nI_clamp h8d] at hk
    refine x_aload_n (i := 0) dX5_of_0 rfl rfl ?_
    refine x_iload_n (i := 1) dX5_of_1 rfl rfl ?_
    refine x_v1i dX5_of_2 okX5_isDriver ml_X5_140 rfl rfl (Nat.le_of_ble_eq_true rfl) ⟨by decide, by decide⟩ (Nat.le_of_ble_eq_true rfl) (c_X5_isDriver hs _ ?_)
    refine x_ifeqP (tgt := 17) dX5_of_5 rfl (fun h5 => ?_) (fun h5 => ?_)
    · exact absurd hc h5
    · skip
      refine x_iload_n (i := 2) dX5_of_8 rfl rfl ?_
      refine x_iconstN (n := 0) dX5_of_9 ?_
      refine x_iconstN (n := 5) dX5_of_10 ?_
      refine x_s3i dX5_of_11 okX5_in1 ml_X5_52 (Nat.le_of_ble_eq_true rfl) ⟨by decide, by decide⟩ (Nat.le_of_ble_eq_true rfl) (c_X5_in1 _ _ _ ?_)
      refine x_ifneP (tgt := 23) dX5_of_14 rfl (fun h14 => ?_) (fun h14 => ?_)
      · skip
        refine x_iload_n (i := 2) dX5_of_23 rfl rfl ?_
        refine x_tsw3 (nI 3) (nI 4) (nI 5) 52 62 74 86 dX5_of_24 (by decide) (by decide) (fun h24 => ?_) (fun h24 => ?_) (fun h24 => ?_) (fun h24_3 h24_4 h24_5 => ?_)
        · skip
          refine x_aload_n (i := 0) dX5_of_52 rfl rfl ?_
          refine x_iload_n (i := 1) dX5_of_53 rfl rfl ?_
          refine x_iconstN (n := 0) dX5_of_54 ?_
          refine x_v2i dX5_of_55 okX5_get ml_X5_92 rfl rfl (Nat.le_of_ble_eq_true rfl) ⟨by decide, by decide⟩ (Nat.le_of_ble_eq_true rfl) (c_get0 hs (by omega) ?_)
          refine x_s1i dX5_of_58 okX5_hurriesOf ml_X5_82 (Nat.le_of_ble_eq_true rfl) ⟨by decide, by decide⟩ (Nat.le_of_ble_eq_true rfl) (c_X5_hurriesOf _ ?_)
          exact x_ireti dX5_of_61 rfl (by subst h24; first | exact hk σ hS | exact hk τ (mS_q hS hf1))
        · skip
          refine x_aload_n (i := 0) dX5_of_62 rfl rfl ?_
          refine x_iload_n (i := 1) dX5_of_63 rfl rfl ?_
          refine x_aload_n (i := 0) dX5_of_64 rfl rfl ?_
          refine x_iload_n (i := 1) dX5_of_65 rfl rfl ?_
          refine x_iconstN (n := 2) dX5_of_66 ?_
          refine x_v2i dX5_of_67 okX5_get ml_X5_92 rfl rfl (Nat.le_of_ble_eq_true rfl) ⟨by decide, by decide⟩ (Nat.le_of_ble_eq_true rfl) (c_get2 hs (by omega) ?_)
          refine x_v2i dX5_of_70 okX5_tookBy ml_X5_102 rfl rfl (Nat.le_of_ble_eq_true rfl) ⟨by decide, by decide⟩ (Nat.le_of_ble_eq_true rfl) (c_X5_tookBy hO hs (by omega) (by omega) (fun τ hf1 => ?_))
          exact x_ireti dX5_of_73 rfl (by subst h24; first | exact hk σ hS | exact hk τ (mS_q hS hf1))
        · skip
          refine x_aload_n (i := 0) dX5_of_74 rfl rfl ?_
          refine x_iload_n (i := 1) dX5_of_75 rfl rfl ?_
          refine x_aload_n (i := 0) dX5_of_76 rfl rfl ?_
          refine x_iload_n (i := 1) dX5_of_77 rfl rfl ?_
          refine x_iconstN (n := 2) dX5_of_78 ?_
          refine x_v2i dX5_of_79 okX5_get ml_X5_92 rfl rfl (Nat.le_of_ble_eq_true rfl) ⟨by decide, by decide⟩ (Nat.le_of_ble_eq_true rfl) (c_get2 hs (by omega) ?_)
          refine x_v2i dX5_of_82 okX5_shookBy ml_X5_99 rfl rfl (Nat.le_of_ble_eq_true rfl) ⟨by decide, by decide⟩ (Nat.le_of_ble_eq_true rfl) (c_X5_shookBy hO hs (by omega) (by omega) (fun τ hf1 => ?_))
          exact x_ireti dX5_of_85 rfl (by subst h24; first | exact hk σ hS | exact hk τ (mS_q hS hf1))
        · skip
          obtain ⟨j, _, hj5, rfl⟩ := vR_of h14 (by decide) (by decide)
          have hj3 : j < 3 := by
            have a : j ≠ 3 := fun z => h24_3 (by rw [z])
            have b : j ≠ 4 := fun z => h24_4 (by rw [z])
            have e : j ≠ 5 := fun z => h24_5 (by rw [z])
            omega
          refine x_aload_n (i := 0) dX5_of_86 rfl rfl ?_
          refine x_iload_n (i := 1) dX5_of_87 rfl rfl ?_
          refine x_iload_n (i := 2) dX5_of_88 rfl rfl ?_
          refine x_v2i dX5_of_89 okX5_get ml_X5_92 rfl rfl (Nat.le_of_ble_eq_true rfl) ⟨by decide, by decide⟩ (Nat.le_of_ble_eq_true rfl) (c_X5_get (by omega) hj3 ?_)
          exact x_ireti dX5_of_92 rfl (by match j, hj3 with
            | 0, _ => rw [show σ.1 1 (123 + 3 * d + 0) = tKd (gT S) d from ms_kd hs hd]; exact hk σ hS
            | 1, _ => rw [ms_ws hs hd]; exact hk σ hS
            | 2, _ => rw [ms_go hs hd]; exact hk σ hS)
      · skip
        refine x_aload_n (i := 0) dX5_of_17 rfl rfl ?_
        refine x_iconstN (n := 0) dX5_of_18 ?_
        refine x_v1i dX5_of_19 okX5_no ml_X5_118 rfl rfl (Nat.le_of_ble_eq_true rfl) ⟨by decide, by decide⟩ (Nat.le_of_ble_eq_true rfl) (c_X5_no hS 0 (by decide) (fun τ hτ => ?_))
        exact x_ireti dX5_of_22 rfl (by rw [if_neg (fun z => h14 (by rw [z]; decide)), if_neg (fun z => h14 (by rw [z]; decide)), if_neg (fun z => h14 (by rw [z]; decide)), if_neg (fun z => h14 (by rw [z]; decide)), if_neg (fun z => h14 (by rw [z]; decide)), if_neg (fun z => h14 (by rw [z]; decide))] at hk; exact hk τ hτ)
  · unfold oOf at hk
    rw [if_neg hc] at hk
    refine x_aload_n (i := 0) dX5_of_0 rfl rfl ?_
    refine x_iload_n (i := 1) dX5_of_1 rfl rfl ?_
    refine x_v1i dX5_of_2 okX5_isDriver ml_X5_140 rfl rfl (Nat.le_of_ble_eq_true rfl) ⟨by decide, by decide⟩ (Nat.le_of_ble_eq_true rfl) (c_X5_isDriver hs _ ?_)
    refine x_ifeqP (tgt := 17) dX5_of_5 rfl (fun h5 => ?_) (fun h5 => ?_)
    · skip
      refine x_aload_n (i := 0) dX5_of_17 rfl rfl ?_
      refine x_iconstN (n := 0) dX5_of_18 ?_
      refine x_v1i dX5_of_19 okX5_no ml_X5_118 rfl rfl (Nat.le_of_ble_eq_true rfl) ⟨by decide, by decide⟩ (Nat.le_of_ble_eq_true rfl) (c_X5_no hS 0 (by decide) (fun τ hτ => ?_))
      exact x_ireti dX5_of_22 rfl (hk τ hτ)
    · exact absurd h5 hc
set_option maxHeartbeats 4000000 in
set_option maxRecDepth 20000 in
theorem c_X5_set {σ : xH} {K : Int32 → xH → Prop} {S : St} (hS : mS σ S) (hO : tOk (gT S)) (d c v : Int32) (hk : ∀ τ, mS τ (oSet S d c v).2 → K (oSet S d c v).1 τ) : Evi l (oM ad D cy) mX5_set [.ref 0, .int d, .int c, .int v] σ K := by
  have hs := hS.1
  have h8 := ms_8 hs
  refine x_enter (ls := [some (.ref 0), some (.int d), some (.int c), some (.int v), none]) rfl ?_
  by_cases hc : vN (tN (gT S)) d
  · unfold oSet at hk
    rw [if_pos hc] at hk
    obtain ⟨d, hd, rfl⟩ := vN_of hc (by omega)
    have hg := ms_g3 hs hd
    have h8d : d < 2 ^ 31 := by omega
    simp only [cn, nI_clamp h8d] at hk
    refine x_aload_n (i := 0) dX5_set_0 rfl rfl ?_
    refine x_iload_n (i := 1) dX5_set_1 rfl rfl ?_
    refine x_v1i dX5_set_2 okX5_isDriver ml_X5_140 rfl rfl (Nat.le_of_ble_eq_true rfl) ⟨by decide, by decide⟩ (Nat.le_of_ble_eq_true rfl) (c_X5_isDriver hs _ ?_)
    refine x_ifeqP (tgt := 39) dX5_set_5 rfl (fun h5 => ?_) (fun h5 => ?_)
    · exact absurd hc h5
    · skip
      refine x_iload_n (i := 2) dX5_set_8 rfl rfl ?_
      refine x_iconstN (n := 1) dX5_set_9 ?_
      refine x_iconstN (n := 2) dX5_set_10 ?_
      refine x_s3i dX5_set_11 okX5_in1 ml_X5_52 (Nat.le_of_ble_eq_true rfl) ⟨by decide, by decide⟩ (Nat.le_of_ble_eq_true rfl) (c_X5_in1 _ _ _ ?_)
      refine x_ifeqP (tgt := 39) dX5_set_14 rfl (fun h14 => ?_) (fun h14 => ?_)
      · skip
        refine x_aload_n (i := 0) dX5_set_39 rfl rfl ?_
        refine x_iconstN (n := 0) dX5_set_40 ?_
        refine x_v1i dX5_set_41 okX5_no ml_X5_118 rfl rfl (Nat.le_of_ble_eq_true rfl) ⟨by decide, by decide⟩ (Nat.le_of_ble_eq_true rfl) (c_X5_no hS 0 (by decide) (fun τ hτ => ?_))
        exact x_ireti dX5_set_44 rfl (by first | (rw [if_neg (fun z => h14 (by rw [z.1]; decide)), if_neg (fun z => h14 (by rw [z.1]; decide))] at hk; exact hk τ hτ) | (rw [if_neg (fun z => h26 z.2), if_neg (fun z => absurd z.1 (by decide))] at hk; exact hk τ hτ) | (rw [if_neg (fun z => absurd z.1 (by decide)), if_neg (fun z => h36 z.2)] at hk; exact hk τ hτ))
      · skip
        refine x_iload_n (i := 2) dX5_set_17 rfl rfl ?_
        refine x_iconstN (n := 1) dX5_set_18 ?_
        refine x_icne (tgt := 32) dX5_set_19 rfl (fun h19 => ?_) (fun h19 => ?_)
        · skip
          have e2 : c = nI 2 := by
            obtain ⟨j, h1, h2, rfl⟩ := vR_of h14 (by decide) (by decide)
            have : j ≠ 1 := fun z => h19 (by rw [z])
            rw [show j = 2 by omega]
          subst e2
          refine x_iload_n (i := 3) dX5_set_32 rfl rfl ?_
          refine x_s1i dX5_set_33 okX5_isStreet ml_X5_112 (Nat.le_of_ble_eq_true rfl) ⟨by decide, by decide⟩ (Nat.le_of_ble_eq_true rfl) (c_X5_isStreet _ ?_)
          refine x_ifneP (tgt := 45) dX5_set_36 rfl (fun h36 => ?_) (fun h36 => ?_)
          · skip
            refine x_aload_n (i := 0) dX5_set_45 rfl rfl ?_
            refine x_iload_n (i := 1) dX5_set_46 rfl rfl ?_
            refine x_iload_n (i := 2) dX5_set_47 rfl rfl ?_
            refine x_v2i dX5_set_48 okX5_get ml_X5_92 rfl rfl (Nat.le_of_ble_eq_true rfl) ⟨by decide, by decide⟩ (Nat.le_of_ble_eq_true rfl) (c_get2 hs (by omega) ?_)
            refine y_istore (i := 4) (ls2 := [_, _, _, _, _]) dX5_set_51 (by decide) rfl rfl ?_
            refine x_aload_n (i := 0) dX5_set_53 rfl rfl ?_
            refine x_iload_n (i := 1) dX5_set_54 rfl rfl ?_
            refine x_iload_n (i := 2) dX5_set_55 rfl rfl ?_
            refine x_iload_n (i := 3) dX5_set_56 rfl rfl ?_
            refine x_v3v dX5_set_57 okX5_puts ml_X5_105 rfl rfl (Nat.le_of_ble_eq_true rfl) ⟨by decide, by decide⟩ (Nat.le_of_ble_eq_true rfl) (c_X5_puts (by omega) (by decide) _ ?_)
            refine x_iload (i := 4) dX5_set_60 rfl ?_
            exact x_ireti dX5_set_62 rfl (by first | (rw [if_pos ⟨rfl, h26⟩] at hk; exact hk _ (mS_g hS fg_1 (ms_setWs hs _ _))) | (rw [if_neg (fun z => absurd z.1 (by decide)), if_pos ⟨rfl, h36⟩] at hk; obtain ⟨x, hx, rfl⟩ := vN_of h36 (by decide); simp only [nI_clamp (show x < 2 ^ 31 by omega)] at hk; exact hk _ (mS_g hS fg_1 (ms_setGo hs _ hx))))
          · skip
            refine x_aload_n (i := 0) dX5_set_39 rfl rfl ?_
            refine x_iconstN (n := 0) dX5_set_40 ?_
            refine x_v1i dX5_set_41 okX5_no ml_X5_118 rfl rfl (Nat.le_of_ble_eq_true rfl) ⟨by decide, by decide⟩ (Nat.le_of_ble_eq_true rfl) (c_X5_no hS 0 (by decide) (fun τ hτ => ?_))
            exact x_ireti dX5_set_44 rfl (by first | (rw [if_neg (fun z => h14 (by rw [z.1]; decide)), if_neg (fun z => h14 (by rw [z.1]; decide))] at hk; exact hk τ hτ) | (rw [if_neg (fun z => h26 z.2), if_neg (fun z => absurd z.1 (by decide))] at hk; exact hk τ hτ) | (rw [if_neg (fun z => absurd z.1 (by decide)), if_neg (fun z => h36 z.2)] at hk; exact hk τ hτ))
        · skip
          subst h19
          refine x_iload_n (i := 3) dX5_set_22 rfl rfl ?_
          refine x_s1i dX5_set_23 okX5_isWish ml_X5_143 (Nat.le_of_ble_eq_true rfl) ⟨by decide, by decide⟩ (Nat.le_of_ble_eq_true rfl) (c_X5_isWish _ ?_)
          refine x_ifeqP (tgt := 39) dX5_set_26 rfl (fun h26 => ?_) (fun h26 => ?_)
          · skip
            refine x_aload_n (i := 0) dX5_set_39 rfl rfl ?_
            refine x_iconstN (n := 0) dX5_set_40 ?_
            refine x_v1i dX5_set_41 okX5_no ml_X5_118 rfl rfl (Nat.le_of_ble_eq_true rfl) ⟨by decide, by decide⟩ (Nat.le_of_ble_eq_true rfl) (c_X5_no hS 0 (by decide) (fun τ hτ => ?_))
            exact x_ireti dX5_set_44 rfl (by first | (rw [if_neg (fun z => h14 (by rw [z.1]; decide)), if_neg (fun z => h14 (by rw [z.1]; decide))] at hk; exact hk τ hτ) | (rw [if_neg (fun z => h26 z.2), if_neg (fun z => absurd z.1 (by decide))] at hk; exact hk τ hτ) | (rw [if_neg (fun z => absurd z.1 (by decide)), if_neg (fun z => h36 z.2)] at hk; exact hk τ hτ))
          · skip
            refine x_goto (tgt := 45) dX5_set_29 rfl ?_
            refine x_aload_n (i := 0) dX5_set_45 rfl rfl ?_
            refine x_iload_n (i := 1) dX5_set_46 rfl rfl ?_
            refine x_iload_n (i := 2) dX5_set_47 rfl rfl ?_
            refine x_v2i dX5_set_48 okX5_get ml_X5_92 rfl rfl (Nat.le_of_ble_eq_true rfl) ⟨by decide, by decide⟩ (Nat.le_of_ble_eq_true rfl) (c_get1 hs (by omega) ?_)
            refine y_istore (i := 4) (ls2 := [_, _, _, _, _]) dX5_set_51 (by decide) rfl rfl ?_
            refine x_aload_n (i := 0) dX5_set_53 rfl rfl ?_
            refine x_iload_n (i := 1) dX5_set_54 rfl rfl ?_
            refine x_iload_n (i := 2) dX5_set_55 rfl rfl ?_
            refine x_iload_n (i := 3) dX5_set_56 rfl rfl ?_
            refine x_v3v dX5_set_57 okX5_puts ml_X5_105 rfl rfl (Nat.le_of_ble_eq_true rfl) ⟨by decide, by decide⟩ (Nat.le_of_ble_eq_true rfl) (c_X5_puts (by omega) (by decide) _ ?_)
            refine x_iload (i := 4) dX5_set_60 rfl ?_
            exact x_ireti dX5_set_62 rfl (by first | (rw [if_pos ⟨rfl, h26⟩] at hk; exact hk _ (mS_g hS fg_1 (ms_setWs hs _ _))) | (rw [if_neg (fun z => absurd z.1 (by decide)), if_pos ⟨rfl, h36⟩] at hk; obtain ⟨x, hx, rfl⟩ := vN_of h36 (by decide); simp only [nI_clamp (show x < 2 ^ 31 by omega)] at hk; exact hk _ (mS_g hS fg_1 (ms_setGo hs _ hx))))
  · unfold oSet at hk
    rw [if_neg hc] at hk
    refine x_aload_n (i := 0) dX5_set_0 rfl rfl ?_
    refine x_iload_n (i := 1) dX5_set_1 rfl rfl ?_
    refine x_v1i dX5_set_2 okX5_isDriver ml_X5_140 rfl rfl (Nat.le_of_ble_eq_true rfl) ⟨by decide, by decide⟩ (Nat.le_of_ble_eq_true rfl) (c_X5_isDriver hs _ ?_)
    refine x_ifeqP (tgt := 39) dX5_set_5 rfl (fun h5 => ?_) (fun h5 => ?_)
    · skip
      refine x_aload_n (i := 0) dX5_set_39 rfl rfl ?_
      refine x_iconstN (n := 0) dX5_set_40 ?_
      refine x_v1i dX5_set_41 okX5_no ml_X5_118 rfl rfl (Nat.le_of_ble_eq_true rfl) ⟨by decide, by decide⟩ (Nat.le_of_ble_eq_true rfl) (c_X5_no hS 0 (by decide) (fun τ hτ => ?_))
      exact x_ireti dX5_set_44 rfl (hk τ hτ)
    · exact absurd h5 hc
set_option maxHeartbeats 4000000 in
set_option maxRecDepth 20000 in
theorem c_X5_as {σ : xH} {K : Int32 → xH → Prop} {S : St} (hS : mS σ S) (hO : tOk (gT S)) (d k : Int32) (hk : ∀ τ, mS τ (oAs S d k).2 → K (oAs S d k).1 τ) : Evi l (oM ad D cy) mX5_as [.ref 0, .int d, .int k] σ K := by
  have hs := hS.1
  have h8 := ms_8 hs
  refine x_enter (ls := [some (.ref 0), some (.int d), some (.int k), none]) rfl ?_
  by_cases hc : vN (tN (gT S)) d ∧ vN 6 k
  · unfold oAs at hk
    rw [if_pos hc] at hk
    have hc2 := hc.2
    obtain ⟨d, hd, rfl⟩ := vN_of hc.1 (by omega)
    have hg := ms_g3 hs hd
    have h8d : d < 2 ^ 31 := by omega
    simp only [cn, nI_clamp h8d] at hk
    obtain ⟨x, hx, ex⟩ := hO.2.1 d hd
    obtain ⟨y, hy, rfl⟩ := vN_of hc2 (by decide)
    rw [ex] at hk
    simp only [nI_clamp (show x < 2 ^ 31 by omega), nI_clamp (show y < 2 ^ 31 by omega)] at hk
    match x, hx, y, hy with
    | 0, _, 0, _ =>
      rw [if_pos (by decide)] at hk
      refine x_aload_n (i := 0) dX5_as_0 rfl rfl ?_
      refine x_iload_n (i := 1) dX5_as_1 rfl rfl ?_
      refine x_v1i dX5_as_2 okX5_isDriver ml_X5_140 rfl rfl (Nat.le_of_ble_eq_true rfl) ⟨by decide, by decide⟩ (Nat.le_of_ble_eq_true rfl) (c_X5_isDriver hs _ ?_)
      refine x_ifeqP (tgt := 17) dX5_as_5 rfl (fun h5 => ?_) (fun h5 => ?_)
      · exact absurd hc.1 h5
      · skip
        refine x_iload_n (i := 2) dX5_as_8 rfl rfl ?_
        refine x_iconstN (n := 0) dX5_as_9 ?_
        refine x_iconstN (n := 5) dX5_as_10 ?_
        refine x_s3i dX5_as_11 okX5_in1 ml_X5_52 (Nat.le_of_ble_eq_true rfl) ⟨by decide, by decide⟩ (Nat.le_of_ble_eq_true rfl) (c_inN (n := 5) (by decide) _ ?_)
        refine x_ifneP (tgt := 23) dX5_as_14 rfl (fun h14 => ?_) (fun h14 => ?_)
        · skip
          refine x_aload_n (i := 0) dX5_as_23 rfl rfl ?_
          refine x_iload_n (i := 1) dX5_as_24 rfl rfl ?_
          refine x_iconstN (n := 0) dX5_as_25 ?_
          refine x_v2i dX5_as_26 okX5_get ml_X5_92 rfl rfl (Nat.le_of_ble_eq_true rfl) ⟨by decide, by decide⟩ (Nat.le_of_ble_eq_true rfl) (c_get0 hs hd ?_)
          refine x_top ex ?_
          refine y_istore_n (i := 3) (ls2 := [_, _, _, _]) dX5_as_29 rfl (by decide) rfl rfl ?_
          refine x_iload_n (i := 3) dX5_as_30 rfl rfl ?_
          refine x_iload_n (i := 2) dX5_as_31 rfl rfl ?_
          refine x_iceqN (tgt := 62) (by omega) (by omega) dX5_as_32 rfl (fun h32 => ?_) (fun h32 => ?_)
          · skip
            refine x_iload_n (i := 3) dX5_as_62 rfl rfl ?_
            refine x_iload_n (i := 2) dX5_as_63 rfl rfl ?_
            refine x_icneN (tgt := 76) (by omega) (by omega) dX5_as_64 rfl (fun h64 => ?_) (fun h64 => ?_)
            · exact absurd h64 (by decide)
            · skip
              refine x_aload_n (i := 0) dX5_as_67 rfl rfl ?_
              refine x_iload_n (i := 1) dX5_as_68 rfl rfl ?_
              refine x_iconstN (n := 1) dX5_as_69 ?_
              refine x_v2i dX5_as_70 okX5_get ml_X5_92 rfl rfl (Nat.le_of_ble_eq_true rfl) ⟨by decide, by decide⟩ (Nat.le_of_ble_eq_true rfl) (c_get1 hs hd ?_)
              refine x_goto (tgt := 81) dX5_as_73 rfl ?_
              exact x_ireti dX5_as_81 rfl (by first | exact hk σ hS | exact hk τ hτ)
          · exact absurd h32 (by decide)
        · exact absurd hc2 h14
    | 0, _, 1, _ =>
      rw [if_neg (by decide)] at hk
      refine x_aload_n (i := 0) dX5_as_0 rfl rfl ?_
      refine x_iload_n (i := 1) dX5_as_1 rfl rfl ?_
      refine x_v1i dX5_as_2 okX5_isDriver ml_X5_140 rfl rfl (Nat.le_of_ble_eq_true rfl) ⟨by decide, by decide⟩ (Nat.le_of_ble_eq_true rfl) (c_X5_isDriver hs _ ?_)
      refine x_ifeqP (tgt := 17) dX5_as_5 rfl (fun h5 => ?_) (fun h5 => ?_)
      · exact absurd hc.1 h5
      · skip
        refine x_iload_n (i := 2) dX5_as_8 rfl rfl ?_
        refine x_iconstN (n := 0) dX5_as_9 ?_
        refine x_iconstN (n := 5) dX5_as_10 ?_
        refine x_s3i dX5_as_11 okX5_in1 ml_X5_52 (Nat.le_of_ble_eq_true rfl) ⟨by decide, by decide⟩ (Nat.le_of_ble_eq_true rfl) (c_inN (n := 5) (by decide) _ ?_)
        refine x_ifneP (tgt := 23) dX5_as_14 rfl (fun h14 => ?_) (fun h14 => ?_)
        · skip
          refine x_aload_n (i := 0) dX5_as_23 rfl rfl ?_
          refine x_iload_n (i := 1) dX5_as_24 rfl rfl ?_
          refine x_iconstN (n := 0) dX5_as_25 ?_
          refine x_v2i dX5_as_26 okX5_get ml_X5_92 rfl rfl (Nat.le_of_ble_eq_true rfl) ⟨by decide, by decide⟩ (Nat.le_of_ble_eq_true rfl) (c_get0 hs hd ?_)
          refine x_top ex ?_
          refine y_istore_n (i := 3) (ls2 := [_, _, _, _]) dX5_as_29 rfl (by decide) rfl rfl ?_
          refine x_iload_n (i := 3) dX5_as_30 rfl rfl ?_
          refine x_iload_n (i := 2) dX5_as_31 rfl rfl ?_
          refine x_iceqN (tgt := 62) (by omega) (by omega) dX5_as_32 rfl (fun h32 => ?_) (fun h32 => ?_)
          · exact absurd h32 (by decide)
          · skip
            refine x_iload_n (i := 3) dX5_as_35 rfl rfl ?_
            refine x_ifeq (tgt := 62) dX5_as_36 rfl (fun h36 => ?_) (fun h36 => ?_)
            · skip
              refine x_iload_n (i := 3) dX5_as_62 rfl rfl ?_
              refine x_iload_n (i := 2) dX5_as_63 rfl rfl ?_
              refine x_icneN (tgt := 76) (by omega) (by omega) dX5_as_64 rfl (fun h64 => ?_) (fun h64 => ?_)
              · skip
                refine x_aload_n (i := 0) dX5_as_76 rfl rfl ?_
                refine x_iconstN (n := 2) dX5_as_77 ?_
                refine x_v1i dX5_as_78 okX5_no ml_X5_118 rfl rfl (Nat.le_of_ble_eq_true rfl) ⟨by decide, by decide⟩ (Nat.le_of_ble_eq_true rfl) (c_X5_no hS 2 (by decide) (fun τ hτ => ?_))
                exact x_ireti dX5_as_81 rfl (by first | exact hk σ hS | exact hk τ hτ)
              · exact absurd h64 (by decide)
            · exact absurd h36 (by decide)
        · exact absurd hc2 h14
    | 0, _, 2, _ =>
      rw [if_neg (by decide)] at hk
      refine x_aload_n (i := 0) dX5_as_0 rfl rfl ?_
      refine x_iload_n (i := 1) dX5_as_1 rfl rfl ?_
      refine x_v1i dX5_as_2 okX5_isDriver ml_X5_140 rfl rfl (Nat.le_of_ble_eq_true rfl) ⟨by decide, by decide⟩ (Nat.le_of_ble_eq_true rfl) (c_X5_isDriver hs _ ?_)
      refine x_ifeqP (tgt := 17) dX5_as_5 rfl (fun h5 => ?_) (fun h5 => ?_)
      · exact absurd hc.1 h5
      · skip
        refine x_iload_n (i := 2) dX5_as_8 rfl rfl ?_
        refine x_iconstN (n := 0) dX5_as_9 ?_
        refine x_iconstN (n := 5) dX5_as_10 ?_
        refine x_s3i dX5_as_11 okX5_in1 ml_X5_52 (Nat.le_of_ble_eq_true rfl) ⟨by decide, by decide⟩ (Nat.le_of_ble_eq_true rfl) (c_inN (n := 5) (by decide) _ ?_)
        refine x_ifneP (tgt := 23) dX5_as_14 rfl (fun h14 => ?_) (fun h14 => ?_)
        · skip
          refine x_aload_n (i := 0) dX5_as_23 rfl rfl ?_
          refine x_iload_n (i := 1) dX5_as_24 rfl rfl ?_
          refine x_iconstN (n := 0) dX5_as_25 ?_
          refine x_v2i dX5_as_26 okX5_get ml_X5_92 rfl rfl (Nat.le_of_ble_eq_true rfl) ⟨by decide, by decide⟩ (Nat.le_of_ble_eq_true rfl) (c_get0 hs hd ?_)
          refine x_top ex ?_
          refine y_istore_n (i := 3) (ls2 := [_, _, _, _]) dX5_as_29 rfl (by decide) rfl rfl ?_
          refine x_iload_n (i := 3) dX5_as_30 rfl rfl ?_
          refine x_iload_n (i := 2) dX5_as_31 rfl rfl ?_
          refine x_iceqN (tgt := 62) (by omega) (by omega) dX5_as_32 rfl (fun h32 => ?_) (fun h32 => ?_)
          · exact absurd h32 (by decide)
          · skip
            refine x_iload_n (i := 3) dX5_as_35 rfl rfl ?_
            refine x_ifeq (tgt := 62) dX5_as_36 rfl (fun h36 => ?_) (fun h36 => ?_)
            · skip
              refine x_iload_n (i := 3) dX5_as_62 rfl rfl ?_
              refine x_iload_n (i := 2) dX5_as_63 rfl rfl ?_
              refine x_icneN (tgt := 76) (by omega) (by omega) dX5_as_64 rfl (fun h64 => ?_) (fun h64 => ?_)
              · skip
                refine x_aload_n (i := 0) dX5_as_76 rfl rfl ?_
                refine x_iconstN (n := 2) dX5_as_77 ?_
                refine x_v1i dX5_as_78 okX5_no ml_X5_118 rfl rfl (Nat.le_of_ble_eq_true rfl) ⟨by decide, by decide⟩ (Nat.le_of_ble_eq_true rfl) (c_X5_no hS 2 (by decide) (fun τ hτ => ?_))
                exact x_ireti dX5_as_81 rfl (by first | exact hk σ hS | exact hk τ hτ)
              · exact absurd h64 (by decide)
            · exact absurd h36 (by decide)
        · exact absurd hc2 h14
    | 0, _, 3, _ =>
      rw [if_neg (by decide)] at hk
      refine x_aload_n (i := 0) dX5_as_0 rfl rfl ?_
      refine x_iload_n (i := 1) dX5_as_1 rfl rfl ?_
      refine x_v1i dX5_as_2 okX5_isDriver ml_X5_140 rfl rfl (Nat.le_of_ble_eq_true rfl) ⟨by decide, by decide⟩ (Nat.le_of_ble_eq_true rfl) (c_X5_isDriver hs _ ?_)
      refine x_ifeqP (tgt := 17) dX5_as_5 rfl (fun h5 => ?_) (fun h5 => ?_)
      · exact absurd hc.1 h5
      · skip
        refine x_iload_n (i := 2) dX5_as_8 rfl rfl ?_
        refine x_iconstN (n := 0) dX5_as_9 ?_
        refine x_iconstN (n := 5) dX5_as_10 ?_
        refine x_s3i dX5_as_11 okX5_in1 ml_X5_52 (Nat.le_of_ble_eq_true rfl) ⟨by decide, by decide⟩ (Nat.le_of_ble_eq_true rfl) (c_inN (n := 5) (by decide) _ ?_)
        refine x_ifneP (tgt := 23) dX5_as_14 rfl (fun h14 => ?_) (fun h14 => ?_)
        · skip
          refine x_aload_n (i := 0) dX5_as_23 rfl rfl ?_
          refine x_iload_n (i := 1) dX5_as_24 rfl rfl ?_
          refine x_iconstN (n := 0) dX5_as_25 ?_
          refine x_v2i dX5_as_26 okX5_get ml_X5_92 rfl rfl (Nat.le_of_ble_eq_true rfl) ⟨by decide, by decide⟩ (Nat.le_of_ble_eq_true rfl) (c_get0 hs hd ?_)
          refine x_top ex ?_
          refine y_istore_n (i := 3) (ls2 := [_, _, _, _]) dX5_as_29 rfl (by decide) rfl rfl ?_
          refine x_iload_n (i := 3) dX5_as_30 rfl rfl ?_
          refine x_iload_n (i := 2) dX5_as_31 rfl rfl ?_
          refine x_iceqN (tgt := 62) (by omega) (by omega) dX5_as_32 rfl (fun h32 => ?_) (fun h32 => ?_)
          · exact absurd h32 (by decide)
          · skip
            refine x_iload_n (i := 3) dX5_as_35 rfl rfl ?_
            refine x_ifeq (tgt := 62) dX5_as_36 rfl (fun h36 => ?_) (fun h36 => ?_)
            · skip
              refine x_iload_n (i := 3) dX5_as_62 rfl rfl ?_
              refine x_iload_n (i := 2) dX5_as_63 rfl rfl ?_
              refine x_icneN (tgt := 76) (by omega) (by omega) dX5_as_64 rfl (fun h64 => ?_) (fun h64 => ?_)
              · skip
                refine x_aload_n (i := 0) dX5_as_76 rfl rfl ?_
                refine x_iconstN (n := 2) dX5_as_77 ?_
                refine x_v1i dX5_as_78 okX5_no ml_X5_118 rfl rfl (Nat.le_of_ble_eq_true rfl) ⟨by decide, by decide⟩ (Nat.le_of_ble_eq_true rfl) (c_X5_no hS 2 (by decide) (fun τ hτ => ?_))
                exact x_ireti dX5_as_81 rfl (by first | exact hk σ hS | exact hk τ hτ)
              · exact absurd h64 (by decide)
            · exact absurd h36 (by decide)
        · exact absurd hc2 h14
    | 0, _, 4, _ =>
      rw [if_neg (by decide)] at hk
      refine x_aload_n (i := 0) dX5_as_0 rfl rfl ?_
      refine x_iload_n (i := 1) dX5_as_1 rfl rfl ?_
      refine x_v1i dX5_as_2 okX5_isDriver ml_X5_140 rfl rfl (Nat.le_of_ble_eq_true rfl) ⟨by decide, by decide⟩ (Nat.le_of_ble_eq_true rfl) (c_X5_isDriver hs _ ?_)
      refine x_ifeqP (tgt := 17) dX5_as_5 rfl (fun h5 => ?_) (fun h5 => ?_)
      · exact absurd hc.1 h5
      · skip
        refine x_iload_n (i := 2) dX5_as_8 rfl rfl ?_
        refine x_iconstN (n := 0) dX5_as_9 ?_
        refine x_iconstN (n := 5) dX5_as_10 ?_
        refine x_s3i dX5_as_11 okX5_in1 ml_X5_52 (Nat.le_of_ble_eq_true rfl) ⟨by decide, by decide⟩ (Nat.le_of_ble_eq_true rfl) (c_inN (n := 5) (by decide) _ ?_)
        refine x_ifneP (tgt := 23) dX5_as_14 rfl (fun h14 => ?_) (fun h14 => ?_)
        · skip
          refine x_aload_n (i := 0) dX5_as_23 rfl rfl ?_
          refine x_iload_n (i := 1) dX5_as_24 rfl rfl ?_
          refine x_iconstN (n := 0) dX5_as_25 ?_
          refine x_v2i dX5_as_26 okX5_get ml_X5_92 rfl rfl (Nat.le_of_ble_eq_true rfl) ⟨by decide, by decide⟩ (Nat.le_of_ble_eq_true rfl) (c_get0 hs hd ?_)
          refine x_top ex ?_
          refine y_istore_n (i := 3) (ls2 := [_, _, _, _]) dX5_as_29 rfl (by decide) rfl rfl ?_
          refine x_iload_n (i := 3) dX5_as_30 rfl rfl ?_
          refine x_iload_n (i := 2) dX5_as_31 rfl rfl ?_
          refine x_iceqN (tgt := 62) (by omega) (by omega) dX5_as_32 rfl (fun h32 => ?_) (fun h32 => ?_)
          · exact absurd h32 (by decide)
          · skip
            refine x_iload_n (i := 3) dX5_as_35 rfl rfl ?_
            refine x_ifeq (tgt := 62) dX5_as_36 rfl (fun h36 => ?_) (fun h36 => ?_)
            · skip
              refine x_iload_n (i := 3) dX5_as_62 rfl rfl ?_
              refine x_iload_n (i := 2) dX5_as_63 rfl rfl ?_
              refine x_icneN (tgt := 76) (by omega) (by omega) dX5_as_64 rfl (fun h64 => ?_) (fun h64 => ?_)
              · skip
                refine x_aload_n (i := 0) dX5_as_76 rfl rfl ?_
                refine x_iconstN (n := 2) dX5_as_77 ?_
                refine x_v1i dX5_as_78 okX5_no ml_X5_118 rfl rfl (Nat.le_of_ble_eq_true rfl) ⟨by decide, by decide⟩ (Nat.le_of_ble_eq_true rfl) (c_X5_no hS 2 (by decide) (fun τ hτ => ?_))
                exact x_ireti dX5_as_81 rfl (by first | exact hk σ hS | exact hk τ hτ)
              · exact absurd h64 (by decide)
            · exact absurd h36 (by decide)
        · exact absurd hc2 h14
    | 0, _, 5, _ =>
      rw [if_neg (by decide)] at hk
      refine x_aload_n (i := 0) dX5_as_0 rfl rfl ?_
      refine x_iload_n (i := 1) dX5_as_1 rfl rfl ?_
      refine x_v1i dX5_as_2 okX5_isDriver ml_X5_140 rfl rfl (Nat.le_of_ble_eq_true rfl) ⟨by decide, by decide⟩ (Nat.le_of_ble_eq_true rfl) (c_X5_isDriver hs _ ?_)
      refine x_ifeqP (tgt := 17) dX5_as_5 rfl (fun h5 => ?_) (fun h5 => ?_)
      · exact absurd hc.1 h5
      · skip
        refine x_iload_n (i := 2) dX5_as_8 rfl rfl ?_
        refine x_iconstN (n := 0) dX5_as_9 ?_
        refine x_iconstN (n := 5) dX5_as_10 ?_
        refine x_s3i dX5_as_11 okX5_in1 ml_X5_52 (Nat.le_of_ble_eq_true rfl) ⟨by decide, by decide⟩ (Nat.le_of_ble_eq_true rfl) (c_inN (n := 5) (by decide) _ ?_)
        refine x_ifneP (tgt := 23) dX5_as_14 rfl (fun h14 => ?_) (fun h14 => ?_)
        · skip
          refine x_aload_n (i := 0) dX5_as_23 rfl rfl ?_
          refine x_iload_n (i := 1) dX5_as_24 rfl rfl ?_
          refine x_iconstN (n := 0) dX5_as_25 ?_
          refine x_v2i dX5_as_26 okX5_get ml_X5_92 rfl rfl (Nat.le_of_ble_eq_true rfl) ⟨by decide, by decide⟩ (Nat.le_of_ble_eq_true rfl) (c_get0 hs hd ?_)
          refine x_top ex ?_
          refine y_istore_n (i := 3) (ls2 := [_, _, _, _]) dX5_as_29 rfl (by decide) rfl rfl ?_
          refine x_iload_n (i := 3) dX5_as_30 rfl rfl ?_
          refine x_iload_n (i := 2) dX5_as_31 rfl rfl ?_
          refine x_iceqN (tgt := 62) (by omega) (by omega) dX5_as_32 rfl (fun h32 => ?_) (fun h32 => ?_)
          · exact absurd h32 (by decide)
          · skip
            refine x_iload_n (i := 3) dX5_as_35 rfl rfl ?_
            refine x_ifeq (tgt := 62) dX5_as_36 rfl (fun h36 => ?_) (fun h36 => ?_)
            · skip
              refine x_iload_n (i := 3) dX5_as_62 rfl rfl ?_
              refine x_iload_n (i := 2) dX5_as_63 rfl rfl ?_
              refine x_icneN (tgt := 76) (by omega) (by omega) dX5_as_64 rfl (fun h64 => ?_) (fun h64 => ?_)
              · skip
                refine x_aload_n (i := 0) dX5_as_76 rfl rfl ?_
                refine x_iconstN (n := 2) dX5_as_77 ?_
                refine x_v1i dX5_as_78 okX5_no ml_X5_118 rfl rfl (Nat.le_of_ble_eq_true rfl) ⟨by decide, by decide⟩ (Nat.le_of_ble_eq_true rfl) (c_X5_no hS 2 (by decide) (fun τ hτ => ?_))
                exact x_ireti dX5_as_81 rfl (by first | exact hk σ hS | exact hk τ hτ)
              · exact absurd h64 (by decide)
            · exact absurd h36 (by decide)
        · exact absurd hc2 h14
    | 1, _, 0, _ =>
      rw [if_pos (by decide)] at hk
      refine x_aload_n (i := 0) dX5_as_0 rfl rfl ?_
      refine x_iload_n (i := 1) dX5_as_1 rfl rfl ?_
      refine x_v1i dX5_as_2 okX5_isDriver ml_X5_140 rfl rfl (Nat.le_of_ble_eq_true rfl) ⟨by decide, by decide⟩ (Nat.le_of_ble_eq_true rfl) (c_X5_isDriver hs _ ?_)
      refine x_ifeqP (tgt := 17) dX5_as_5 rfl (fun h5 => ?_) (fun h5 => ?_)
      · exact absurd hc.1 h5
      · skip
        refine x_iload_n (i := 2) dX5_as_8 rfl rfl ?_
        refine x_iconstN (n := 0) dX5_as_9 ?_
        refine x_iconstN (n := 5) dX5_as_10 ?_
        refine x_s3i dX5_as_11 okX5_in1 ml_X5_52 (Nat.le_of_ble_eq_true rfl) ⟨by decide, by decide⟩ (Nat.le_of_ble_eq_true rfl) (c_inN (n := 5) (by decide) _ ?_)
        refine x_ifneP (tgt := 23) dX5_as_14 rfl (fun h14 => ?_) (fun h14 => ?_)
        · skip
          refine x_aload_n (i := 0) dX5_as_23 rfl rfl ?_
          refine x_iload_n (i := 1) dX5_as_24 rfl rfl ?_
          refine x_iconstN (n := 0) dX5_as_25 ?_
          refine x_v2i dX5_as_26 okX5_get ml_X5_92 rfl rfl (Nat.le_of_ble_eq_true rfl) ⟨by decide, by decide⟩ (Nat.le_of_ble_eq_true rfl) (c_get0 hs hd ?_)
          refine x_top ex ?_
          refine y_istore_n (i := 3) (ls2 := [_, _, _, _]) dX5_as_29 rfl (by decide) rfl rfl ?_
          refine x_iload_n (i := 3) dX5_as_30 rfl rfl ?_
          refine x_iload_n (i := 2) dX5_as_31 rfl rfl ?_
          refine x_iceqN (tgt := 62) (by omega) (by omega) dX5_as_32 rfl (fun h32 => ?_) (fun h32 => ?_)
          · exact absurd h32 (by decide)
          · skip
            refine x_iload_n (i := 3) dX5_as_35 rfl rfl ?_
            refine x_ifeq (tgt := 62) dX5_as_36 rfl (fun h36 => ?_) (fun h36 => ?_)
            · exact absurd h36 (by decide)
            · skip
              refine x_iload_n (i := 3) dX5_as_39 rfl rfl ?_
              refine x_iconstN (n := 4) dX5_as_40 ?_
              refine x_icneN (tgt := 48) (by omega) (by omega) dX5_as_41 rfl (fun h41 => ?_) (fun h41 => ?_)
              · skip
                refine x_iload_n (i := 3) dX5_as_48 rfl rfl ?_
                refine x_iconstN (n := 5) dX5_as_49 ?_
                refine x_icneN (tgt := 57) (by omega) (by omega) dX5_as_50 rfl (fun h50 => ?_) (fun h50 => ?_)
                · skip
                  refine x_iconstN (n := 0) dX5_as_57 ?_
                  refine y_istore_n (i := 3) (ls2 := [_, _, _, _]) dX5_as_58 rfl (by decide) rfl rfl ?_
                  refine x_goto (tgt := 30) dX5_as_59 rfl ?_
                  refine x_iload_n (i := 3) dX5_as_30 rfl rfl ?_
                  refine x_iload_n (i := 2) dX5_as_31 rfl rfl ?_
                  refine x_iceqN (tgt := 62) (by omega) (by omega) dX5_as_32 rfl (fun h32_1 => ?_) (fun h32_1 => ?_)
                  · skip
                    refine x_iload_n (i := 3) dX5_as_62 rfl rfl ?_
                    refine x_iload_n (i := 2) dX5_as_63 rfl rfl ?_
                    refine x_icneN (tgt := 76) (by omega) (by omega) dX5_as_64 rfl (fun h64 => ?_) (fun h64 => ?_)
                    · exact absurd h64 (by decide)
                    · skip
                      refine x_aload_n (i := 0) dX5_as_67 rfl rfl ?_
                      refine x_iload_n (i := 1) dX5_as_68 rfl rfl ?_
                      refine x_iconstN (n := 1) dX5_as_69 ?_
                      refine x_v2i dX5_as_70 okX5_get ml_X5_92 rfl rfl (Nat.le_of_ble_eq_true rfl) ⟨by decide, by decide⟩ (Nat.le_of_ble_eq_true rfl) (c_get1 hs hd ?_)
                      refine x_goto (tgt := 81) dX5_as_73 rfl ?_
                      exact x_ireti dX5_as_81 rfl (by first | exact hk σ hS | exact hk τ hτ)
                  · exact absurd h32_1 (by decide)
                · exact absurd h50 (by decide)
              · exact absurd h41 (by decide)
        · exact absurd hc2 h14
    | 1, _, 1, _ =>
      rw [if_pos (by decide)] at hk
      refine x_aload_n (i := 0) dX5_as_0 rfl rfl ?_
      refine x_iload_n (i := 1) dX5_as_1 rfl rfl ?_
      refine x_v1i dX5_as_2 okX5_isDriver ml_X5_140 rfl rfl (Nat.le_of_ble_eq_true rfl) ⟨by decide, by decide⟩ (Nat.le_of_ble_eq_true rfl) (c_X5_isDriver hs _ ?_)
      refine x_ifeqP (tgt := 17) dX5_as_5 rfl (fun h5 => ?_) (fun h5 => ?_)
      · exact absurd hc.1 h5
      · skip
        refine x_iload_n (i := 2) dX5_as_8 rfl rfl ?_
        refine x_iconstN (n := 0) dX5_as_9 ?_
        refine x_iconstN (n := 5) dX5_as_10 ?_
        refine x_s3i dX5_as_11 okX5_in1 ml_X5_52 (Nat.le_of_ble_eq_true rfl) ⟨by decide, by decide⟩ (Nat.le_of_ble_eq_true rfl) (c_inN (n := 5) (by decide) _ ?_)
        refine x_ifneP (tgt := 23) dX5_as_14 rfl (fun h14 => ?_) (fun h14 => ?_)
        · skip
          refine x_aload_n (i := 0) dX5_as_23 rfl rfl ?_
          refine x_iload_n (i := 1) dX5_as_24 rfl rfl ?_
          refine x_iconstN (n := 0) dX5_as_25 ?_
          refine x_v2i dX5_as_26 okX5_get ml_X5_92 rfl rfl (Nat.le_of_ble_eq_true rfl) ⟨by decide, by decide⟩ (Nat.le_of_ble_eq_true rfl) (c_get0 hs hd ?_)
          refine x_top ex ?_
          refine y_istore_n (i := 3) (ls2 := [_, _, _, _]) dX5_as_29 rfl (by decide) rfl rfl ?_
          refine x_iload_n (i := 3) dX5_as_30 rfl rfl ?_
          refine x_iload_n (i := 2) dX5_as_31 rfl rfl ?_
          refine x_iceqN (tgt := 62) (by omega) (by omega) dX5_as_32 rfl (fun h32 => ?_) (fun h32 => ?_)
          · skip
            refine x_iload_n (i := 3) dX5_as_62 rfl rfl ?_
            refine x_iload_n (i := 2) dX5_as_63 rfl rfl ?_
            refine x_icneN (tgt := 76) (by omega) (by omega) dX5_as_64 rfl (fun h64 => ?_) (fun h64 => ?_)
            · exact absurd h64 (by decide)
            · skip
              refine x_aload_n (i := 0) dX5_as_67 rfl rfl ?_
              refine x_iload_n (i := 1) dX5_as_68 rfl rfl ?_
              refine x_iconstN (n := 1) dX5_as_69 ?_
              refine x_v2i dX5_as_70 okX5_get ml_X5_92 rfl rfl (Nat.le_of_ble_eq_true rfl) ⟨by decide, by decide⟩ (Nat.le_of_ble_eq_true rfl) (c_get1 hs hd ?_)
              refine x_goto (tgt := 81) dX5_as_73 rfl ?_
              exact x_ireti dX5_as_81 rfl (by first | exact hk σ hS | exact hk τ hτ)
          · exact absurd h32 (by decide)
        · exact absurd hc2 h14
    | 1, _, 2, _ =>
      rw [if_neg (by decide)] at hk
      refine x_aload_n (i := 0) dX5_as_0 rfl rfl ?_
      refine x_iload_n (i := 1) dX5_as_1 rfl rfl ?_
      refine x_v1i dX5_as_2 okX5_isDriver ml_X5_140 rfl rfl (Nat.le_of_ble_eq_true rfl) ⟨by decide, by decide⟩ (Nat.le_of_ble_eq_true rfl) (c_X5_isDriver hs _ ?_)
      refine x_ifeqP (tgt := 17) dX5_as_5 rfl (fun h5 => ?_) (fun h5 => ?_)
      · exact absurd hc.1 h5
      · skip
        refine x_iload_n (i := 2) dX5_as_8 rfl rfl ?_
        refine x_iconstN (n := 0) dX5_as_9 ?_
        refine x_iconstN (n := 5) dX5_as_10 ?_
        refine x_s3i dX5_as_11 okX5_in1 ml_X5_52 (Nat.le_of_ble_eq_true rfl) ⟨by decide, by decide⟩ (Nat.le_of_ble_eq_true rfl) (c_inN (n := 5) (by decide) _ ?_)
        refine x_ifneP (tgt := 23) dX5_as_14 rfl (fun h14 => ?_) (fun h14 => ?_)
        · skip
          refine x_aload_n (i := 0) dX5_as_23 rfl rfl ?_
          refine x_iload_n (i := 1) dX5_as_24 rfl rfl ?_
          refine x_iconstN (n := 0) dX5_as_25 ?_
          refine x_v2i dX5_as_26 okX5_get ml_X5_92 rfl rfl (Nat.le_of_ble_eq_true rfl) ⟨by decide, by decide⟩ (Nat.le_of_ble_eq_true rfl) (c_get0 hs hd ?_)
          refine x_top ex ?_
          refine y_istore_n (i := 3) (ls2 := [_, _, _, _]) dX5_as_29 rfl (by decide) rfl rfl ?_
          refine x_iload_n (i := 3) dX5_as_30 rfl rfl ?_
          refine x_iload_n (i := 2) dX5_as_31 rfl rfl ?_
          refine x_iceqN (tgt := 62) (by omega) (by omega) dX5_as_32 rfl (fun h32 => ?_) (fun h32 => ?_)
          · exact absurd h32 (by decide)
          · skip
            refine x_iload_n (i := 3) dX5_as_35 rfl rfl ?_
            refine x_ifeq (tgt := 62) dX5_as_36 rfl (fun h36 => ?_) (fun h36 => ?_)
            · exact absurd h36 (by decide)
            · skip
              refine x_iload_n (i := 3) dX5_as_39 rfl rfl ?_
              refine x_iconstN (n := 4) dX5_as_40 ?_
              refine x_icneN (tgt := 48) (by omega) (by omega) dX5_as_41 rfl (fun h41 => ?_) (fun h41 => ?_)
              · skip
                refine x_iload_n (i := 3) dX5_as_48 rfl rfl ?_
                refine x_iconstN (n := 5) dX5_as_49 ?_
                refine x_icneN (tgt := 57) (by omega) (by omega) dX5_as_50 rfl (fun h50 => ?_) (fun h50 => ?_)
                · skip
                  refine x_iconstN (n := 0) dX5_as_57 ?_
                  refine y_istore_n (i := 3) (ls2 := [_, _, _, _]) dX5_as_58 rfl (by decide) rfl rfl ?_
                  refine x_goto (tgt := 30) dX5_as_59 rfl ?_
                  refine x_iload_n (i := 3) dX5_as_30 rfl rfl ?_
                  refine x_iload_n (i := 2) dX5_as_31 rfl rfl ?_
                  refine x_iceqN (tgt := 62) (by omega) (by omega) dX5_as_32 rfl (fun h32_1 => ?_) (fun h32_1 => ?_)
                  · exact absurd h32_1 (by decide)
                  · skip
                    refine x_iload_n (i := 3) dX5_as_35 rfl rfl ?_
                    refine x_ifeq (tgt := 62) dX5_as_36 rfl (fun h36_1 => ?_) (fun h36_1 => ?_)
                    · skip
                      refine x_iload_n (i := 3) dX5_as_62 rfl rfl ?_
                      refine x_iload_n (i := 2) dX5_as_63 rfl rfl ?_
                      refine x_icneN (tgt := 76) (by omega) (by omega) dX5_as_64 rfl (fun h64 => ?_) (fun h64 => ?_)
                      · skip
                        refine x_aload_n (i := 0) dX5_as_76 rfl rfl ?_
                        refine x_iconstN (n := 2) dX5_as_77 ?_
                        refine x_v1i dX5_as_78 okX5_no ml_X5_118 rfl rfl (Nat.le_of_ble_eq_true rfl) ⟨by decide, by decide⟩ (Nat.le_of_ble_eq_true rfl) (c_X5_no hS 2 (by decide) (fun τ hτ => ?_))
                        exact x_ireti dX5_as_81 rfl (by first | exact hk σ hS | exact hk τ hτ)
                      · exact absurd h64 (by decide)
                    · exact absurd h36_1 (by decide)
                · exact absurd h50 (by decide)
              · exact absurd h41 (by decide)
        · exact absurd hc2 h14
    | 1, _, 3, _ =>
      rw [if_neg (by decide)] at hk
      refine x_aload_n (i := 0) dX5_as_0 rfl rfl ?_
      refine x_iload_n (i := 1) dX5_as_1 rfl rfl ?_
      refine x_v1i dX5_as_2 okX5_isDriver ml_X5_140 rfl rfl (Nat.le_of_ble_eq_true rfl) ⟨by decide, by decide⟩ (Nat.le_of_ble_eq_true rfl) (c_X5_isDriver hs _ ?_)
      refine x_ifeqP (tgt := 17) dX5_as_5 rfl (fun h5 => ?_) (fun h5 => ?_)
      · exact absurd hc.1 h5
      · skip
        refine x_iload_n (i := 2) dX5_as_8 rfl rfl ?_
        refine x_iconstN (n := 0) dX5_as_9 ?_
        refine x_iconstN (n := 5) dX5_as_10 ?_
        refine x_s3i dX5_as_11 okX5_in1 ml_X5_52 (Nat.le_of_ble_eq_true rfl) ⟨by decide, by decide⟩ (Nat.le_of_ble_eq_true rfl) (c_inN (n := 5) (by decide) _ ?_)
        refine x_ifneP (tgt := 23) dX5_as_14 rfl (fun h14 => ?_) (fun h14 => ?_)
        · skip
          refine x_aload_n (i := 0) dX5_as_23 rfl rfl ?_
          refine x_iload_n (i := 1) dX5_as_24 rfl rfl ?_
          refine x_iconstN (n := 0) dX5_as_25 ?_
          refine x_v2i dX5_as_26 okX5_get ml_X5_92 rfl rfl (Nat.le_of_ble_eq_true rfl) ⟨by decide, by decide⟩ (Nat.le_of_ble_eq_true rfl) (c_get0 hs hd ?_)
          refine x_top ex ?_
          refine y_istore_n (i := 3) (ls2 := [_, _, _, _]) dX5_as_29 rfl (by decide) rfl rfl ?_
          refine x_iload_n (i := 3) dX5_as_30 rfl rfl ?_
          refine x_iload_n (i := 2) dX5_as_31 rfl rfl ?_
          refine x_iceqN (tgt := 62) (by omega) (by omega) dX5_as_32 rfl (fun h32 => ?_) (fun h32 => ?_)
          · exact absurd h32 (by decide)
          · skip
            refine x_iload_n (i := 3) dX5_as_35 rfl rfl ?_
            refine x_ifeq (tgt := 62) dX5_as_36 rfl (fun h36 => ?_) (fun h36 => ?_)
            · exact absurd h36 (by decide)
            · skip
              refine x_iload_n (i := 3) dX5_as_39 rfl rfl ?_
              refine x_iconstN (n := 4) dX5_as_40 ?_
              refine x_icneN (tgt := 48) (by omega) (by omega) dX5_as_41 rfl (fun h41 => ?_) (fun h41 => ?_)
              · skip
                refine x_iload_n (i := 3) dX5_as_48 rfl rfl ?_
                refine x_iconstN (n := 5) dX5_as_49 ?_
                refine x_icneN (tgt := 57) (by omega) (by omega) dX5_as_50 rfl (fun h50 => ?_) (fun h50 => ?_)
                · skip
                  refine x_iconstN (n := 0) dX5_as_57 ?_
                  refine y_istore_n (i := 3) (ls2 := [_, _, _, _]) dX5_as_58 rfl (by decide) rfl rfl ?_
                  refine x_goto (tgt := 30) dX5_as_59 rfl ?_
                  refine x_iload_n (i := 3) dX5_as_30 rfl rfl ?_
                  refine x_iload_n (i := 2) dX5_as_31 rfl rfl ?_
                  refine x_iceqN (tgt := 62) (by omega) (by omega) dX5_as_32 rfl (fun h32_1 => ?_) (fun h32_1 => ?_)
                  · exact absurd h32_1 (by decide)
                  · skip
                    refine x_iload_n (i := 3) dX5_as_35 rfl rfl ?_
                    refine x_ifeq (tgt := 62) dX5_as_36 rfl (fun h36_1 => ?_) (fun h36_1 => ?_)
                    · skip
                      refine x_iload_n (i := 3) dX5_as_62 rfl rfl ?_
                      refine x_iload_n (i := 2) dX5_as_63 rfl rfl ?_
                      refine x_icneN (tgt := 76) (by omega) (by omega) dX5_as_64 rfl (fun h64 => ?_) (fun h64 => ?_)
                      · skip
                        refine x_aload_n (i := 0) dX5_as_76 rfl rfl ?_
                        refine x_iconstN (n := 2) dX5_as_77 ?_
                        refine x_v1i dX5_as_78 okX5_no ml_X5_118 rfl rfl (Nat.le_of_ble_eq_true rfl) ⟨by decide, by decide⟩ (Nat.le_of_ble_eq_true rfl) (c_X5_no hS 2 (by decide) (fun τ hτ => ?_))
                        exact x_ireti dX5_as_81 rfl (by first | exact hk σ hS | exact hk τ hτ)
                      · exact absurd h64 (by decide)
                    · exact absurd h36_1 (by decide)
                · exact absurd h50 (by decide)
              · exact absurd h41 (by decide)
        · exact absurd hc2 h14
    | 1, _, 4, _ =>
      rw [if_neg (by decide)] at hk
      refine x_aload_n (i := 0) dX5_as_0 rfl rfl ?_
      refine x_iload_n (i := 1) dX5_as_1 rfl rfl ?_
      refine x_v1i dX5_as_2 okX5_isDriver ml_X5_140 rfl rfl (Nat.le_of_ble_eq_true rfl) ⟨by decide, by decide⟩ (Nat.le_of_ble_eq_true rfl) (c_X5_isDriver hs _ ?_)
      refine x_ifeqP (tgt := 17) dX5_as_5 rfl (fun h5 => ?_) (fun h5 => ?_)
      · exact absurd hc.1 h5
      · skip
        refine x_iload_n (i := 2) dX5_as_8 rfl rfl ?_
        refine x_iconstN (n := 0) dX5_as_9 ?_
        refine x_iconstN (n := 5) dX5_as_10 ?_
        refine x_s3i dX5_as_11 okX5_in1 ml_X5_52 (Nat.le_of_ble_eq_true rfl) ⟨by decide, by decide⟩ (Nat.le_of_ble_eq_true rfl) (c_inN (n := 5) (by decide) _ ?_)
        refine x_ifneP (tgt := 23) dX5_as_14 rfl (fun h14 => ?_) (fun h14 => ?_)
        · skip
          refine x_aload_n (i := 0) dX5_as_23 rfl rfl ?_
          refine x_iload_n (i := 1) dX5_as_24 rfl rfl ?_
          refine x_iconstN (n := 0) dX5_as_25 ?_
          refine x_v2i dX5_as_26 okX5_get ml_X5_92 rfl rfl (Nat.le_of_ble_eq_true rfl) ⟨by decide, by decide⟩ (Nat.le_of_ble_eq_true rfl) (c_get0 hs hd ?_)
          refine x_top ex ?_
          refine y_istore_n (i := 3) (ls2 := [_, _, _, _]) dX5_as_29 rfl (by decide) rfl rfl ?_
          refine x_iload_n (i := 3) dX5_as_30 rfl rfl ?_
          refine x_iload_n (i := 2) dX5_as_31 rfl rfl ?_
          refine x_iceqN (tgt := 62) (by omega) (by omega) dX5_as_32 rfl (fun h32 => ?_) (fun h32 => ?_)
          · exact absurd h32 (by decide)
          · skip
            refine x_iload_n (i := 3) dX5_as_35 rfl rfl ?_
            refine x_ifeq (tgt := 62) dX5_as_36 rfl (fun h36 => ?_) (fun h36 => ?_)
            · exact absurd h36 (by decide)
            · skip
              refine x_iload_n (i := 3) dX5_as_39 rfl rfl ?_
              refine x_iconstN (n := 4) dX5_as_40 ?_
              refine x_icneN (tgt := 48) (by omega) (by omega) dX5_as_41 rfl (fun h41 => ?_) (fun h41 => ?_)
              · skip
                refine x_iload_n (i := 3) dX5_as_48 rfl rfl ?_
                refine x_iconstN (n := 5) dX5_as_49 ?_
                refine x_icneN (tgt := 57) (by omega) (by omega) dX5_as_50 rfl (fun h50 => ?_) (fun h50 => ?_)
                · skip
                  refine x_iconstN (n := 0) dX5_as_57 ?_
                  refine y_istore_n (i := 3) (ls2 := [_, _, _, _]) dX5_as_58 rfl (by decide) rfl rfl ?_
                  refine x_goto (tgt := 30) dX5_as_59 rfl ?_
                  refine x_iload_n (i := 3) dX5_as_30 rfl rfl ?_
                  refine x_iload_n (i := 2) dX5_as_31 rfl rfl ?_
                  refine x_iceqN (tgt := 62) (by omega) (by omega) dX5_as_32 rfl (fun h32_1 => ?_) (fun h32_1 => ?_)
                  · exact absurd h32_1 (by decide)
                  · skip
                    refine x_iload_n (i := 3) dX5_as_35 rfl rfl ?_
                    refine x_ifeq (tgt := 62) dX5_as_36 rfl (fun h36_1 => ?_) (fun h36_1 => ?_)
                    · skip
                      refine x_iload_n (i := 3) dX5_as_62 rfl rfl ?_
                      refine x_iload_n (i := 2) dX5_as_63 rfl rfl ?_
                      refine x_icneN (tgt := 76) (by omega) (by omega) dX5_as_64 rfl (fun h64 => ?_) (fun h64 => ?_)
                      · skip
                        refine x_aload_n (i := 0) dX5_as_76 rfl rfl ?_
                        refine x_iconstN (n := 2) dX5_as_77 ?_
                        refine x_v1i dX5_as_78 okX5_no ml_X5_118 rfl rfl (Nat.le_of_ble_eq_true rfl) ⟨by decide, by decide⟩ (Nat.le_of_ble_eq_true rfl) (c_X5_no hS 2 (by decide) (fun τ hτ => ?_))
                        exact x_ireti dX5_as_81 rfl (by first | exact hk σ hS | exact hk τ hτ)
                      · exact absurd h64 (by decide)
                    · exact absurd h36_1 (by decide)
                · exact absurd h50 (by decide)
              · exact absurd h41 (by decide)
        · exact absurd hc2 h14
    | 1, _, 5, _ =>
      rw [if_neg (by decide)] at hk
      refine x_aload_n (i := 0) dX5_as_0 rfl rfl ?_
      refine x_iload_n (i := 1) dX5_as_1 rfl rfl ?_
      refine x_v1i dX5_as_2 okX5_isDriver ml_X5_140 rfl rfl (Nat.le_of_ble_eq_true rfl) ⟨by decide, by decide⟩ (Nat.le_of_ble_eq_true rfl) (c_X5_isDriver hs _ ?_)
      refine x_ifeqP (tgt := 17) dX5_as_5 rfl (fun h5 => ?_) (fun h5 => ?_)
      · exact absurd hc.1 h5
      · skip
        refine x_iload_n (i := 2) dX5_as_8 rfl rfl ?_
        refine x_iconstN (n := 0) dX5_as_9 ?_
        refine x_iconstN (n := 5) dX5_as_10 ?_
        refine x_s3i dX5_as_11 okX5_in1 ml_X5_52 (Nat.le_of_ble_eq_true rfl) ⟨by decide, by decide⟩ (Nat.le_of_ble_eq_true rfl) (c_inN (n := 5) (by decide) _ ?_)
        refine x_ifneP (tgt := 23) dX5_as_14 rfl (fun h14 => ?_) (fun h14 => ?_)
        · skip
          refine x_aload_n (i := 0) dX5_as_23 rfl rfl ?_
          refine x_iload_n (i := 1) dX5_as_24 rfl rfl ?_
          refine x_iconstN (n := 0) dX5_as_25 ?_
          refine x_v2i dX5_as_26 okX5_get ml_X5_92 rfl rfl (Nat.le_of_ble_eq_true rfl) ⟨by decide, by decide⟩ (Nat.le_of_ble_eq_true rfl) (c_get0 hs hd ?_)
          refine x_top ex ?_
          refine y_istore_n (i := 3) (ls2 := [_, _, _, _]) dX5_as_29 rfl (by decide) rfl rfl ?_
          refine x_iload_n (i := 3) dX5_as_30 rfl rfl ?_
          refine x_iload_n (i := 2) dX5_as_31 rfl rfl ?_
          refine x_iceqN (tgt := 62) (by omega) (by omega) dX5_as_32 rfl (fun h32 => ?_) (fun h32 => ?_)
          · exact absurd h32 (by decide)
          · skip
            refine x_iload_n (i := 3) dX5_as_35 rfl rfl ?_
            refine x_ifeq (tgt := 62) dX5_as_36 rfl (fun h36 => ?_) (fun h36 => ?_)
            · exact absurd h36 (by decide)
            · skip
              refine x_iload_n (i := 3) dX5_as_39 rfl rfl ?_
              refine x_iconstN (n := 4) dX5_as_40 ?_
              refine x_icneN (tgt := 48) (by omega) (by omega) dX5_as_41 rfl (fun h41 => ?_) (fun h41 => ?_)
              · skip
                refine x_iload_n (i := 3) dX5_as_48 rfl rfl ?_
                refine x_iconstN (n := 5) dX5_as_49 ?_
                refine x_icneN (tgt := 57) (by omega) (by omega) dX5_as_50 rfl (fun h50 => ?_) (fun h50 => ?_)
                · skip
                  refine x_iconstN (n := 0) dX5_as_57 ?_
                  refine y_istore_n (i := 3) (ls2 := [_, _, _, _]) dX5_as_58 rfl (by decide) rfl rfl ?_
                  refine x_goto (tgt := 30) dX5_as_59 rfl ?_
                  refine x_iload_n (i := 3) dX5_as_30 rfl rfl ?_
                  refine x_iload_n (i := 2) dX5_as_31 rfl rfl ?_
                  refine x_iceqN (tgt := 62) (by omega) (by omega) dX5_as_32 rfl (fun h32_1 => ?_) (fun h32_1 => ?_)
                  · exact absurd h32_1 (by decide)
                  · skip
                    refine x_iload_n (i := 3) dX5_as_35 rfl rfl ?_
                    refine x_ifeq (tgt := 62) dX5_as_36 rfl (fun h36_1 => ?_) (fun h36_1 => ?_)
                    · skip
                      refine x_iload_n (i := 3) dX5_as_62 rfl rfl ?_
                      refine x_iload_n (i := 2) dX5_as_63 rfl rfl ?_
                      refine x_icneN (tgt := 76) (by omega) (by omega) dX5_as_64 rfl (fun h64 => ?_) (fun h64 => ?_)
                      · skip
                        refine x_aload_n (i := 0) dX5_as_76 rfl rfl ?_
                        refine x_iconstN (n := 2) dX5_as_77 ?_
                        refine x_v1i dX5_as_78 okX5_no ml_X5_118 rfl rfl (Nat.le_of_ble_eq_true rfl) ⟨by decide, by decide⟩ (Nat.le_of_ble_eq_true rfl) (c_X5_no hS 2 (by decide) (fun τ hτ => ?_))
                        exact x_ireti dX5_as_81 rfl (by first | exact hk σ hS | exact hk τ hτ)
                      · exact absurd h64 (by decide)
                    · exact absurd h36_1 (by decide)
                · exact absurd h50 (by decide)
              · exact absurd h41 (by decide)
        · exact absurd hc2 h14
    | 2, _, 0, _ =>
      rw [if_pos (by decide)] at hk
      refine x_aload_n (i := 0) dX5_as_0 rfl rfl ?_
      refine x_iload_n (i := 1) dX5_as_1 rfl rfl ?_
      refine x_v1i dX5_as_2 okX5_isDriver ml_X5_140 rfl rfl (Nat.le_of_ble_eq_true rfl) ⟨by decide, by decide⟩ (Nat.le_of_ble_eq_true rfl) (c_X5_isDriver hs _ ?_)
      refine x_ifeqP (tgt := 17) dX5_as_5 rfl (fun h5 => ?_) (fun h5 => ?_)
      · exact absurd hc.1 h5
      · skip
        refine x_iload_n (i := 2) dX5_as_8 rfl rfl ?_
        refine x_iconstN (n := 0) dX5_as_9 ?_
        refine x_iconstN (n := 5) dX5_as_10 ?_
        refine x_s3i dX5_as_11 okX5_in1 ml_X5_52 (Nat.le_of_ble_eq_true rfl) ⟨by decide, by decide⟩ (Nat.le_of_ble_eq_true rfl) (c_inN (n := 5) (by decide) _ ?_)
        refine x_ifneP (tgt := 23) dX5_as_14 rfl (fun h14 => ?_) (fun h14 => ?_)
        · skip
          refine x_aload_n (i := 0) dX5_as_23 rfl rfl ?_
          refine x_iload_n (i := 1) dX5_as_24 rfl rfl ?_
          refine x_iconstN (n := 0) dX5_as_25 ?_
          refine x_v2i dX5_as_26 okX5_get ml_X5_92 rfl rfl (Nat.le_of_ble_eq_true rfl) ⟨by decide, by decide⟩ (Nat.le_of_ble_eq_true rfl) (c_get0 hs hd ?_)
          refine x_top ex ?_
          refine y_istore_n (i := 3) (ls2 := [_, _, _, _]) dX5_as_29 rfl (by decide) rfl rfl ?_
          refine x_iload_n (i := 3) dX5_as_30 rfl rfl ?_
          refine x_iload_n (i := 2) dX5_as_31 rfl rfl ?_
          refine x_iceqN (tgt := 62) (by omega) (by omega) dX5_as_32 rfl (fun h32 => ?_) (fun h32 => ?_)
          · exact absurd h32 (by decide)
          · skip
            refine x_iload_n (i := 3) dX5_as_35 rfl rfl ?_
            refine x_ifeq (tgt := 62) dX5_as_36 rfl (fun h36 => ?_) (fun h36 => ?_)
            · exact absurd h36 (by decide)
            · skip
              refine x_iload_n (i := 3) dX5_as_39 rfl rfl ?_
              refine x_iconstN (n := 4) dX5_as_40 ?_
              refine x_icneN (tgt := 48) (by omega) (by omega) dX5_as_41 rfl (fun h41 => ?_) (fun h41 => ?_)
              · skip
                refine x_iload_n (i := 3) dX5_as_48 rfl rfl ?_
                refine x_iconstN (n := 5) dX5_as_49 ?_
                refine x_icneN (tgt := 57) (by omega) (by omega) dX5_as_50 rfl (fun h50 => ?_) (fun h50 => ?_)
                · skip
                  refine x_iconstN (n := 0) dX5_as_57 ?_
                  refine y_istore_n (i := 3) (ls2 := [_, _, _, _]) dX5_as_58 rfl (by decide) rfl rfl ?_
                  refine x_goto (tgt := 30) dX5_as_59 rfl ?_
                  refine x_iload_n (i := 3) dX5_as_30 rfl rfl ?_
                  refine x_iload_n (i := 2) dX5_as_31 rfl rfl ?_
                  refine x_iceqN (tgt := 62) (by omega) (by omega) dX5_as_32 rfl (fun h32_1 => ?_) (fun h32_1 => ?_)
                  · skip
                    refine x_iload_n (i := 3) dX5_as_62 rfl rfl ?_
                    refine x_iload_n (i := 2) dX5_as_63 rfl rfl ?_
                    refine x_icneN (tgt := 76) (by omega) (by omega) dX5_as_64 rfl (fun h64 => ?_) (fun h64 => ?_)
                    · exact absurd h64 (by decide)
                    · skip
                      refine x_aload_n (i := 0) dX5_as_67 rfl rfl ?_
                      refine x_iload_n (i := 1) dX5_as_68 rfl rfl ?_
                      refine x_iconstN (n := 1) dX5_as_69 ?_
                      refine x_v2i dX5_as_70 okX5_get ml_X5_92 rfl rfl (Nat.le_of_ble_eq_true rfl) ⟨by decide, by decide⟩ (Nat.le_of_ble_eq_true rfl) (c_get1 hs hd ?_)
                      refine x_goto (tgt := 81) dX5_as_73 rfl ?_
                      exact x_ireti dX5_as_81 rfl (by first | exact hk σ hS | exact hk τ hτ)
                  · exact absurd h32_1 (by decide)
                · exact absurd h50 (by decide)
              · exact absurd h41 (by decide)
        · exact absurd hc2 h14
    | 2, _, 1, _ =>
      rw [if_neg (by decide)] at hk
      refine x_aload_n (i := 0) dX5_as_0 rfl rfl ?_
      refine x_iload_n (i := 1) dX5_as_1 rfl rfl ?_
      refine x_v1i dX5_as_2 okX5_isDriver ml_X5_140 rfl rfl (Nat.le_of_ble_eq_true rfl) ⟨by decide, by decide⟩ (Nat.le_of_ble_eq_true rfl) (c_X5_isDriver hs _ ?_)
      refine x_ifeqP (tgt := 17) dX5_as_5 rfl (fun h5 => ?_) (fun h5 => ?_)
      · exact absurd hc.1 h5
      · skip
        refine x_iload_n (i := 2) dX5_as_8 rfl rfl ?_
        refine x_iconstN (n := 0) dX5_as_9 ?_
        refine x_iconstN (n := 5) dX5_as_10 ?_
        refine x_s3i dX5_as_11 okX5_in1 ml_X5_52 (Nat.le_of_ble_eq_true rfl) ⟨by decide, by decide⟩ (Nat.le_of_ble_eq_true rfl) (c_inN (n := 5) (by decide) _ ?_)
        refine x_ifneP (tgt := 23) dX5_as_14 rfl (fun h14 => ?_) (fun h14 => ?_)
        · skip
          refine x_aload_n (i := 0) dX5_as_23 rfl rfl ?_
          refine x_iload_n (i := 1) dX5_as_24 rfl rfl ?_
          refine x_iconstN (n := 0) dX5_as_25 ?_
          refine x_v2i dX5_as_26 okX5_get ml_X5_92 rfl rfl (Nat.le_of_ble_eq_true rfl) ⟨by decide, by decide⟩ (Nat.le_of_ble_eq_true rfl) (c_get0 hs hd ?_)
          refine x_top ex ?_
          refine y_istore_n (i := 3) (ls2 := [_, _, _, _]) dX5_as_29 rfl (by decide) rfl rfl ?_
          refine x_iload_n (i := 3) dX5_as_30 rfl rfl ?_
          refine x_iload_n (i := 2) dX5_as_31 rfl rfl ?_
          refine x_iceqN (tgt := 62) (by omega) (by omega) dX5_as_32 rfl (fun h32 => ?_) (fun h32 => ?_)
          · exact absurd h32 (by decide)
          · skip
            refine x_iload_n (i := 3) dX5_as_35 rfl rfl ?_
            refine x_ifeq (tgt := 62) dX5_as_36 rfl (fun h36 => ?_) (fun h36 => ?_)
            · exact absurd h36 (by decide)
            · skip
              refine x_iload_n (i := 3) dX5_as_39 rfl rfl ?_
              refine x_iconstN (n := 4) dX5_as_40 ?_
              refine x_icneN (tgt := 48) (by omega) (by omega) dX5_as_41 rfl (fun h41 => ?_) (fun h41 => ?_)
              · skip
                refine x_iload_n (i := 3) dX5_as_48 rfl rfl ?_
                refine x_iconstN (n := 5) dX5_as_49 ?_
                refine x_icneN (tgt := 57) (by omega) (by omega) dX5_as_50 rfl (fun h50 => ?_) (fun h50 => ?_)
                · skip
                  refine x_iconstN (n := 0) dX5_as_57 ?_
                  refine y_istore_n (i := 3) (ls2 := [_, _, _, _]) dX5_as_58 rfl (by decide) rfl rfl ?_
                  refine x_goto (tgt := 30) dX5_as_59 rfl ?_
                  refine x_iload_n (i := 3) dX5_as_30 rfl rfl ?_
                  refine x_iload_n (i := 2) dX5_as_31 rfl rfl ?_
                  refine x_iceqN (tgt := 62) (by omega) (by omega) dX5_as_32 rfl (fun h32_1 => ?_) (fun h32_1 => ?_)
                  · exact absurd h32_1 (by decide)
                  · skip
                    refine x_iload_n (i := 3) dX5_as_35 rfl rfl ?_
                    refine x_ifeq (tgt := 62) dX5_as_36 rfl (fun h36_1 => ?_) (fun h36_1 => ?_)
                    · skip
                      refine x_iload_n (i := 3) dX5_as_62 rfl rfl ?_
                      refine x_iload_n (i := 2) dX5_as_63 rfl rfl ?_
                      refine x_icneN (tgt := 76) (by omega) (by omega) dX5_as_64 rfl (fun h64 => ?_) (fun h64 => ?_)
                      · skip
                        refine x_aload_n (i := 0) dX5_as_76 rfl rfl ?_
                        refine x_iconstN (n := 2) dX5_as_77 ?_
                        refine x_v1i dX5_as_78 okX5_no ml_X5_118 rfl rfl (Nat.le_of_ble_eq_true rfl) ⟨by decide, by decide⟩ (Nat.le_of_ble_eq_true rfl) (c_X5_no hS 2 (by decide) (fun τ hτ => ?_))
                        exact x_ireti dX5_as_81 rfl (by first | exact hk σ hS | exact hk τ hτ)
                      · exact absurd h64 (by decide)
                    · exact absurd h36_1 (by decide)
                · exact absurd h50 (by decide)
              · exact absurd h41 (by decide)
        · exact absurd hc2 h14
    | 2, _, 2, _ =>
      rw [if_pos (by decide)] at hk
      refine x_aload_n (i := 0) dX5_as_0 rfl rfl ?_
      refine x_iload_n (i := 1) dX5_as_1 rfl rfl ?_
      refine x_v1i dX5_as_2 okX5_isDriver ml_X5_140 rfl rfl (Nat.le_of_ble_eq_true rfl) ⟨by decide, by decide⟩ (Nat.le_of_ble_eq_true rfl) (c_X5_isDriver hs _ ?_)
      refine x_ifeqP (tgt := 17) dX5_as_5 rfl (fun h5 => ?_) (fun h5 => ?_)
      · exact absurd hc.1 h5
      · skip
        refine x_iload_n (i := 2) dX5_as_8 rfl rfl ?_
        refine x_iconstN (n := 0) dX5_as_9 ?_
        refine x_iconstN (n := 5) dX5_as_10 ?_
        refine x_s3i dX5_as_11 okX5_in1 ml_X5_52 (Nat.le_of_ble_eq_true rfl) ⟨by decide, by decide⟩ (Nat.le_of_ble_eq_true rfl) (c_inN (n := 5) (by decide) _ ?_)
        refine x_ifneP (tgt := 23) dX5_as_14 rfl (fun h14 => ?_) (fun h14 => ?_)
        · skip
          refine x_aload_n (i := 0) dX5_as_23 rfl rfl ?_
          refine x_iload_n (i := 1) dX5_as_24 rfl rfl ?_
          refine x_iconstN (n := 0) dX5_as_25 ?_
          refine x_v2i dX5_as_26 okX5_get ml_X5_92 rfl rfl (Nat.le_of_ble_eq_true rfl) ⟨by decide, by decide⟩ (Nat.le_of_ble_eq_true rfl) (c_get0 hs hd ?_)
          refine x_top ex ?_
          refine y_istore_n (i := 3) (ls2 := [_, _, _, _]) dX5_as_29 rfl (by decide) rfl rfl ?_
          refine x_iload_n (i := 3) dX5_as_30 rfl rfl ?_
          refine x_iload_n (i := 2) dX5_as_31 rfl rfl ?_
          refine x_iceqN (tgt := 62) (by omega) (by omega) dX5_as_32 rfl (fun h32 => ?_) (fun h32 => ?_)
          · skip
            refine x_iload_n (i := 3) dX5_as_62 rfl rfl ?_
            refine x_iload_n (i := 2) dX5_as_63 rfl rfl ?_
            refine x_icneN (tgt := 76) (by omega) (by omega) dX5_as_64 rfl (fun h64 => ?_) (fun h64 => ?_)
            · exact absurd h64 (by decide)
            · skip
              refine x_aload_n (i := 0) dX5_as_67 rfl rfl ?_
              refine x_iload_n (i := 1) dX5_as_68 rfl rfl ?_
              refine x_iconstN (n := 1) dX5_as_69 ?_
              refine x_v2i dX5_as_70 okX5_get ml_X5_92 rfl rfl (Nat.le_of_ble_eq_true rfl) ⟨by decide, by decide⟩ (Nat.le_of_ble_eq_true rfl) (c_get1 hs hd ?_)
              refine x_goto (tgt := 81) dX5_as_73 rfl ?_
              exact x_ireti dX5_as_81 rfl (by first | exact hk σ hS | exact hk τ hτ)
          · exact absurd h32 (by decide)
        · exact absurd hc2 h14
    | 2, _, 3, _ =>
      rw [if_neg (by decide)] at hk
      refine x_aload_n (i := 0) dX5_as_0 rfl rfl ?_
      refine x_iload_n (i := 1) dX5_as_1 rfl rfl ?_
      refine x_v1i dX5_as_2 okX5_isDriver ml_X5_140 rfl rfl (Nat.le_of_ble_eq_true rfl) ⟨by decide, by decide⟩ (Nat.le_of_ble_eq_true rfl) (c_X5_isDriver hs _ ?_)
      refine x_ifeqP (tgt := 17) dX5_as_5 rfl (fun h5 => ?_) (fun h5 => ?_)
      · exact absurd hc.1 h5
      · skip
        refine x_iload_n (i := 2) dX5_as_8 rfl rfl ?_
        refine x_iconstN (n := 0) dX5_as_9 ?_
        refine x_iconstN (n := 5) dX5_as_10 ?_
        refine x_s3i dX5_as_11 okX5_in1 ml_X5_52 (Nat.le_of_ble_eq_true rfl) ⟨by decide, by decide⟩ (Nat.le_of_ble_eq_true rfl) (c_inN (n := 5) (by decide) _ ?_)
        refine x_ifneP (tgt := 23) dX5_as_14 rfl (fun h14 => ?_) (fun h14 => ?_)
        · skip
          refine x_aload_n (i := 0) dX5_as_23 rfl rfl ?_
          refine x_iload_n (i := 1) dX5_as_24 rfl rfl ?_
          refine x_iconstN (n := 0) dX5_as_25 ?_
          refine x_v2i dX5_as_26 okX5_get ml_X5_92 rfl rfl (Nat.le_of_ble_eq_true rfl) ⟨by decide, by decide⟩ (Nat.le_of_ble_eq_true rfl) (c_get0 hs hd ?_)
          refine x_top ex ?_
          refine y_istore_n (i := 3) (ls2 := [_, _, _, _]) dX5_as_29 rfl (by decide) rfl rfl ?_
          refine x_iload_n (i := 3) dX5_as_30 rfl rfl ?_
          refine x_iload_n (i := 2) dX5_as_31 rfl rfl ?_
          refine x_iceqN (tgt := 62) (by omega) (by omega) dX5_as_32 rfl (fun h32 => ?_) (fun h32 => ?_)
          · exact absurd h32 (by decide)
          · skip
            refine x_iload_n (i := 3) dX5_as_35 rfl rfl ?_
            refine x_ifeq (tgt := 62) dX5_as_36 rfl (fun h36 => ?_) (fun h36 => ?_)
            · exact absurd h36 (by decide)
            · skip
              refine x_iload_n (i := 3) dX5_as_39 rfl rfl ?_
              refine x_iconstN (n := 4) dX5_as_40 ?_
              refine x_icneN (tgt := 48) (by omega) (by omega) dX5_as_41 rfl (fun h41 => ?_) (fun h41 => ?_)
              · skip
                refine x_iload_n (i := 3) dX5_as_48 rfl rfl ?_
                refine x_iconstN (n := 5) dX5_as_49 ?_
                refine x_icneN (tgt := 57) (by omega) (by omega) dX5_as_50 rfl (fun h50 => ?_) (fun h50 => ?_)
                · skip
                  refine x_iconstN (n := 0) dX5_as_57 ?_
                  refine y_istore_n (i := 3) (ls2 := [_, _, _, _]) dX5_as_58 rfl (by decide) rfl rfl ?_
                  refine x_goto (tgt := 30) dX5_as_59 rfl ?_
                  refine x_iload_n (i := 3) dX5_as_30 rfl rfl ?_
                  refine x_iload_n (i := 2) dX5_as_31 rfl rfl ?_
                  refine x_iceqN (tgt := 62) (by omega) (by omega) dX5_as_32 rfl (fun h32_1 => ?_) (fun h32_1 => ?_)
                  · exact absurd h32_1 (by decide)
                  · skip
                    refine x_iload_n (i := 3) dX5_as_35 rfl rfl ?_
                    refine x_ifeq (tgt := 62) dX5_as_36 rfl (fun h36_1 => ?_) (fun h36_1 => ?_)
                    · skip
                      refine x_iload_n (i := 3) dX5_as_62 rfl rfl ?_
                      refine x_iload_n (i := 2) dX5_as_63 rfl rfl ?_
                      refine x_icneN (tgt := 76) (by omega) (by omega) dX5_as_64 rfl (fun h64 => ?_) (fun h64 => ?_)
                      · skip
                        refine x_aload_n (i := 0) dX5_as_76 rfl rfl ?_
                        refine x_iconstN (n := 2) dX5_as_77 ?_
                        refine x_v1i dX5_as_78 okX5_no ml_X5_118 rfl rfl (Nat.le_of_ble_eq_true rfl) ⟨by decide, by decide⟩ (Nat.le_of_ble_eq_true rfl) (c_X5_no hS 2 (by decide) (fun τ hτ => ?_))
                        exact x_ireti dX5_as_81 rfl (by first | exact hk σ hS | exact hk τ hτ)
                      · exact absurd h64 (by decide)
                    · exact absurd h36_1 (by decide)
                · exact absurd h50 (by decide)
              · exact absurd h41 (by decide)
        · exact absurd hc2 h14
    | 2, _, 4, _ =>
      rw [if_neg (by decide)] at hk
      refine x_aload_n (i := 0) dX5_as_0 rfl rfl ?_
      refine x_iload_n (i := 1) dX5_as_1 rfl rfl ?_
      refine x_v1i dX5_as_2 okX5_isDriver ml_X5_140 rfl rfl (Nat.le_of_ble_eq_true rfl) ⟨by decide, by decide⟩ (Nat.le_of_ble_eq_true rfl) (c_X5_isDriver hs _ ?_)
      refine x_ifeqP (tgt := 17) dX5_as_5 rfl (fun h5 => ?_) (fun h5 => ?_)
      · exact absurd hc.1 h5
      · skip
        refine x_iload_n (i := 2) dX5_as_8 rfl rfl ?_
        refine x_iconstN (n := 0) dX5_as_9 ?_
        refine x_iconstN (n := 5) dX5_as_10 ?_
        refine x_s3i dX5_as_11 okX5_in1 ml_X5_52 (Nat.le_of_ble_eq_true rfl) ⟨by decide, by decide⟩ (Nat.le_of_ble_eq_true rfl) (c_inN (n := 5) (by decide) _ ?_)
        refine x_ifneP (tgt := 23) dX5_as_14 rfl (fun h14 => ?_) (fun h14 => ?_)
        · skip
          refine x_aload_n (i := 0) dX5_as_23 rfl rfl ?_
          refine x_iload_n (i := 1) dX5_as_24 rfl rfl ?_
          refine x_iconstN (n := 0) dX5_as_25 ?_
          refine x_v2i dX5_as_26 okX5_get ml_X5_92 rfl rfl (Nat.le_of_ble_eq_true rfl) ⟨by decide, by decide⟩ (Nat.le_of_ble_eq_true rfl) (c_get0 hs hd ?_)
          refine x_top ex ?_
          refine y_istore_n (i := 3) (ls2 := [_, _, _, _]) dX5_as_29 rfl (by decide) rfl rfl ?_
          refine x_iload_n (i := 3) dX5_as_30 rfl rfl ?_
          refine x_iload_n (i := 2) dX5_as_31 rfl rfl ?_
          refine x_iceqN (tgt := 62) (by omega) (by omega) dX5_as_32 rfl (fun h32 => ?_) (fun h32 => ?_)
          · exact absurd h32 (by decide)
          · skip
            refine x_iload_n (i := 3) dX5_as_35 rfl rfl ?_
            refine x_ifeq (tgt := 62) dX5_as_36 rfl (fun h36 => ?_) (fun h36 => ?_)
            · exact absurd h36 (by decide)
            · skip
              refine x_iload_n (i := 3) dX5_as_39 rfl rfl ?_
              refine x_iconstN (n := 4) dX5_as_40 ?_
              refine x_icneN (tgt := 48) (by omega) (by omega) dX5_as_41 rfl (fun h41 => ?_) (fun h41 => ?_)
              · skip
                refine x_iload_n (i := 3) dX5_as_48 rfl rfl ?_
                refine x_iconstN (n := 5) dX5_as_49 ?_
                refine x_icneN (tgt := 57) (by omega) (by omega) dX5_as_50 rfl (fun h50 => ?_) (fun h50 => ?_)
                · skip
                  refine x_iconstN (n := 0) dX5_as_57 ?_
                  refine y_istore_n (i := 3) (ls2 := [_, _, _, _]) dX5_as_58 rfl (by decide) rfl rfl ?_
                  refine x_goto (tgt := 30) dX5_as_59 rfl ?_
                  refine x_iload_n (i := 3) dX5_as_30 rfl rfl ?_
                  refine x_iload_n (i := 2) dX5_as_31 rfl rfl ?_
                  refine x_iceqN (tgt := 62) (by omega) (by omega) dX5_as_32 rfl (fun h32_1 => ?_) (fun h32_1 => ?_)
                  · exact absurd h32_1 (by decide)
                  · skip
                    refine x_iload_n (i := 3) dX5_as_35 rfl rfl ?_
                    refine x_ifeq (tgt := 62) dX5_as_36 rfl (fun h36_1 => ?_) (fun h36_1 => ?_)
                    · skip
                      refine x_iload_n (i := 3) dX5_as_62 rfl rfl ?_
                      refine x_iload_n (i := 2) dX5_as_63 rfl rfl ?_
                      refine x_icneN (tgt := 76) (by omega) (by omega) dX5_as_64 rfl (fun h64 => ?_) (fun h64 => ?_)
                      · skip
                        refine x_aload_n (i := 0) dX5_as_76 rfl rfl ?_
                        refine x_iconstN (n := 2) dX5_as_77 ?_
                        refine x_v1i dX5_as_78 okX5_no ml_X5_118 rfl rfl (Nat.le_of_ble_eq_true rfl) ⟨by decide, by decide⟩ (Nat.le_of_ble_eq_true rfl) (c_X5_no hS 2 (by decide) (fun τ hτ => ?_))
                        exact x_ireti dX5_as_81 rfl (by first | exact hk σ hS | exact hk τ hτ)
                      · exact absurd h64 (by decide)
                    · exact absurd h36_1 (by decide)
                · exact absurd h50 (by decide)
              · exact absurd h41 (by decide)
        · exact absurd hc2 h14
    | 2, _, 5, _ =>
      rw [if_neg (by decide)] at hk
      refine x_aload_n (i := 0) dX5_as_0 rfl rfl ?_
      refine x_iload_n (i := 1) dX5_as_1 rfl rfl ?_
      refine x_v1i dX5_as_2 okX5_isDriver ml_X5_140 rfl rfl (Nat.le_of_ble_eq_true rfl) ⟨by decide, by decide⟩ (Nat.le_of_ble_eq_true rfl) (c_X5_isDriver hs _ ?_)
      refine x_ifeqP (tgt := 17) dX5_as_5 rfl (fun h5 => ?_) (fun h5 => ?_)
      · exact absurd hc.1 h5
      · skip
        refine x_iload_n (i := 2) dX5_as_8 rfl rfl ?_
        refine x_iconstN (n := 0) dX5_as_9 ?_
        refine x_iconstN (n := 5) dX5_as_10 ?_
        refine x_s3i dX5_as_11 okX5_in1 ml_X5_52 (Nat.le_of_ble_eq_true rfl) ⟨by decide, by decide⟩ (Nat.le_of_ble_eq_true rfl) (c_inN (n := 5) (by decide) _ ?_)
        refine x_ifneP (tgt := 23) dX5_as_14 rfl (fun h14 => ?_) (fun h14 => ?_)
        · skip
          refine x_aload_n (i := 0) dX5_as_23 rfl rfl ?_
          refine x_iload_n (i := 1) dX5_as_24 rfl rfl ?_
          refine x_iconstN (n := 0) dX5_as_25 ?_
          refine x_v2i dX5_as_26 okX5_get ml_X5_92 rfl rfl (Nat.le_of_ble_eq_true rfl) ⟨by decide, by decide⟩ (Nat.le_of_ble_eq_true rfl) (c_get0 hs hd ?_)
          refine x_top ex ?_
          refine y_istore_n (i := 3) (ls2 := [_, _, _, _]) dX5_as_29 rfl (by decide) rfl rfl ?_
          refine x_iload_n (i := 3) dX5_as_30 rfl rfl ?_
          refine x_iload_n (i := 2) dX5_as_31 rfl rfl ?_
          refine x_iceqN (tgt := 62) (by omega) (by omega) dX5_as_32 rfl (fun h32 => ?_) (fun h32 => ?_)
          · exact absurd h32 (by decide)
          · skip
            refine x_iload_n (i := 3) dX5_as_35 rfl rfl ?_
            refine x_ifeq (tgt := 62) dX5_as_36 rfl (fun h36 => ?_) (fun h36 => ?_)
            · exact absurd h36 (by decide)
            · skip
              refine x_iload_n (i := 3) dX5_as_39 rfl rfl ?_
              refine x_iconstN (n := 4) dX5_as_40 ?_
              refine x_icneN (tgt := 48) (by omega) (by omega) dX5_as_41 rfl (fun h41 => ?_) (fun h41 => ?_)
              · skip
                refine x_iload_n (i := 3) dX5_as_48 rfl rfl ?_
                refine x_iconstN (n := 5) dX5_as_49 ?_
                refine x_icneN (tgt := 57) (by omega) (by omega) dX5_as_50 rfl (fun h50 => ?_) (fun h50 => ?_)
                · skip
                  refine x_iconstN (n := 0) dX5_as_57 ?_
                  refine y_istore_n (i := 3) (ls2 := [_, _, _, _]) dX5_as_58 rfl (by decide) rfl rfl ?_
                  refine x_goto (tgt := 30) dX5_as_59 rfl ?_
                  refine x_iload_n (i := 3) dX5_as_30 rfl rfl ?_
                  refine x_iload_n (i := 2) dX5_as_31 rfl rfl ?_
                  refine x_iceqN (tgt := 62) (by omega) (by omega) dX5_as_32 rfl (fun h32_1 => ?_) (fun h32_1 => ?_)
                  · exact absurd h32_1 (by decide)
                  · skip
                    refine x_iload_n (i := 3) dX5_as_35 rfl rfl ?_
                    refine x_ifeq (tgt := 62) dX5_as_36 rfl (fun h36_1 => ?_) (fun h36_1 => ?_)
                    · skip
                      refine x_iload_n (i := 3) dX5_as_62 rfl rfl ?_
                      refine x_iload_n (i := 2) dX5_as_63 rfl rfl ?_
                      refine x_icneN (tgt := 76) (by omega) (by omega) dX5_as_64 rfl (fun h64 => ?_) (fun h64 => ?_)
                      · skip
                        refine x_aload_n (i := 0) dX5_as_76 rfl rfl ?_
                        refine x_iconstN (n := 2) dX5_as_77 ?_
                        refine x_v1i dX5_as_78 okX5_no ml_X5_118 rfl rfl (Nat.le_of_ble_eq_true rfl) ⟨by decide, by decide⟩ (Nat.le_of_ble_eq_true rfl) (c_X5_no hS 2 (by decide) (fun τ hτ => ?_))
                        exact x_ireti dX5_as_81 rfl (by first | exact hk σ hS | exact hk τ hτ)
                      · exact absurd h64 (by decide)
                    · exact absurd h36_1 (by decide)
                · exact absurd h50 (by decide)
              · exact absurd h41 (by decide)
        · exact absurd hc2 h14
    | 3, _, 0, _ =>
      rw [if_pos (by decide)] at hk
      refine x_aload_n (i := 0) dX5_as_0 rfl rfl ?_
      refine x_iload_n (i := 1) dX5_as_1 rfl rfl ?_
      refine x_v1i dX5_as_2 okX5_isDriver ml_X5_140 rfl rfl (Nat.le_of_ble_eq_true rfl) ⟨by decide, by decide⟩ (Nat.le_of_ble_eq_true rfl) (c_X5_isDriver hs _ ?_)
      refine x_ifeqP (tgt := 17) dX5_as_5 rfl (fun h5 => ?_) (fun h5 => ?_)
      · exact absurd hc.1 h5
      · skip
        refine x_iload_n (i := 2) dX5_as_8 rfl rfl ?_
        refine x_iconstN (n := 0) dX5_as_9 ?_
        refine x_iconstN (n := 5) dX5_as_10 ?_
        refine x_s3i dX5_as_11 okX5_in1 ml_X5_52 (Nat.le_of_ble_eq_true rfl) ⟨by decide, by decide⟩ (Nat.le_of_ble_eq_true rfl) (c_inN (n := 5) (by decide) _ ?_)
        refine x_ifneP (tgt := 23) dX5_as_14 rfl (fun h14 => ?_) (fun h14 => ?_)
        · skip
          refine x_aload_n (i := 0) dX5_as_23 rfl rfl ?_
          refine x_iload_n (i := 1) dX5_as_24 rfl rfl ?_
          refine x_iconstN (n := 0) dX5_as_25 ?_
          refine x_v2i dX5_as_26 okX5_get ml_X5_92 rfl rfl (Nat.le_of_ble_eq_true rfl) ⟨by decide, by decide⟩ (Nat.le_of_ble_eq_true rfl) (c_get0 hs hd ?_)
          refine x_top ex ?_
          refine y_istore_n (i := 3) (ls2 := [_, _, _, _]) dX5_as_29 rfl (by decide) rfl rfl ?_
          refine x_iload_n (i := 3) dX5_as_30 rfl rfl ?_
          refine x_iload_n (i := 2) dX5_as_31 rfl rfl ?_
          refine x_iceqN (tgt := 62) (by omega) (by omega) dX5_as_32 rfl (fun h32 => ?_) (fun h32 => ?_)
          · exact absurd h32 (by decide)
          · skip
            refine x_iload_n (i := 3) dX5_as_35 rfl rfl ?_
            refine x_ifeq (tgt := 62) dX5_as_36 rfl (fun h36 => ?_) (fun h36 => ?_)
            · exact absurd h36 (by decide)
            · skip
              refine x_iload_n (i := 3) dX5_as_39 rfl rfl ?_
              refine x_iconstN (n := 4) dX5_as_40 ?_
              refine x_icneN (tgt := 48) (by omega) (by omega) dX5_as_41 rfl (fun h41 => ?_) (fun h41 => ?_)
              · skip
                refine x_iload_n (i := 3) dX5_as_48 rfl rfl ?_
                refine x_iconstN (n := 5) dX5_as_49 ?_
                refine x_icneN (tgt := 57) (by omega) (by omega) dX5_as_50 rfl (fun h50 => ?_) (fun h50 => ?_)
                · skip
                  refine x_iconstN (n := 0) dX5_as_57 ?_
                  refine y_istore_n (i := 3) (ls2 := [_, _, _, _]) dX5_as_58 rfl (by decide) rfl rfl ?_
                  refine x_goto (tgt := 30) dX5_as_59 rfl ?_
                  refine x_iload_n (i := 3) dX5_as_30 rfl rfl ?_
                  refine x_iload_n (i := 2) dX5_as_31 rfl rfl ?_
                  refine x_iceqN (tgt := 62) (by omega) (by omega) dX5_as_32 rfl (fun h32_1 => ?_) (fun h32_1 => ?_)
                  · skip
                    refine x_iload_n (i := 3) dX5_as_62 rfl rfl ?_
                    refine x_iload_n (i := 2) dX5_as_63 rfl rfl ?_
                    refine x_icneN (tgt := 76) (by omega) (by omega) dX5_as_64 rfl (fun h64 => ?_) (fun h64 => ?_)
                    · exact absurd h64 (by decide)
                    · skip
                      refine x_aload_n (i := 0) dX5_as_67 rfl rfl ?_
                      refine x_iload_n (i := 1) dX5_as_68 rfl rfl ?_
                      refine x_iconstN (n := 1) dX5_as_69 ?_
                      refine x_v2i dX5_as_70 okX5_get ml_X5_92 rfl rfl (Nat.le_of_ble_eq_true rfl) ⟨by decide, by decide⟩ (Nat.le_of_ble_eq_true rfl) (c_get1 hs hd ?_)
                      refine x_goto (tgt := 81) dX5_as_73 rfl ?_
                      exact x_ireti dX5_as_81 rfl (by first | exact hk σ hS | exact hk τ hτ)
                  · exact absurd h32_1 (by decide)
                · exact absurd h50 (by decide)
              · exact absurd h41 (by decide)
        · exact absurd hc2 h14
    | 3, _, 1, _ =>
      rw [if_neg (by decide)] at hk
      refine x_aload_n (i := 0) dX5_as_0 rfl rfl ?_
      refine x_iload_n (i := 1) dX5_as_1 rfl rfl ?_
      refine x_v1i dX5_as_2 okX5_isDriver ml_X5_140 rfl rfl (Nat.le_of_ble_eq_true rfl) ⟨by decide, by decide⟩ (Nat.le_of_ble_eq_true rfl) (c_X5_isDriver hs _ ?_)
      refine x_ifeqP (tgt := 17) dX5_as_5 rfl (fun h5 => ?_) (fun h5 => ?_)
      · exact absurd hc.1 h5
      · skip
        refine x_iload_n (i := 2) dX5_as_8 rfl rfl ?_
        refine x_iconstN (n := 0) dX5_as_9 ?_
        refine x_iconstN (n := 5) dX5_as_10 ?_
        refine x_s3i dX5_as_11 okX5_in1 ml_X5_52 (Nat.le_of_ble_eq_true rfl) ⟨by decide, by decide⟩ (Nat.le_of_ble_eq_true rfl) (c_inN (n := 5) (by decide) _ ?_)
        refine x_ifneP (tgt := 23) dX5_as_14 rfl (fun h14 => ?_) (fun h14 => ?_)
        · skip
          refine x_aload_n (i := 0) dX5_as_23 rfl rfl ?_
          refine x_iload_n (i := 1) dX5_as_24 rfl rfl ?_
          refine x_iconstN (n := 0) dX5_as_25 ?_
          refine x_v2i dX5_as_26 okX5_get ml_X5_92 rfl rfl (Nat.le_of_ble_eq_true rfl) ⟨by decide, by decide⟩ (Nat.le_of_ble_eq_true rfl) (c_get0 hs hd ?_)
          refine x_top ex ?_
          refine y_istore_n (i := 3) (ls2 := [_, _, _, _]) dX5_as_29 rfl (by decide) rfl rfl ?_
          refine x_iload_n (i := 3) dX5_as_30 rfl rfl ?_
          refine x_iload_n (i := 2) dX5_as_31 rfl rfl ?_
          refine x_iceqN (tgt := 62) (by omega) (by omega) dX5_as_32 rfl (fun h32 => ?_) (fun h32 => ?_)
          · exact absurd h32 (by decide)
          · skip
            refine x_iload_n (i := 3) dX5_as_35 rfl rfl ?_
            refine x_ifeq (tgt := 62) dX5_as_36 rfl (fun h36 => ?_) (fun h36 => ?_)
            · exact absurd h36 (by decide)
            · skip
              refine x_iload_n (i := 3) dX5_as_39 rfl rfl ?_
              refine x_iconstN (n := 4) dX5_as_40 ?_
              refine x_icneN (tgt := 48) (by omega) (by omega) dX5_as_41 rfl (fun h41 => ?_) (fun h41 => ?_)
              · skip
                refine x_iload_n (i := 3) dX5_as_48 rfl rfl ?_
                refine x_iconstN (n := 5) dX5_as_49 ?_
                refine x_icneN (tgt := 57) (by omega) (by omega) dX5_as_50 rfl (fun h50 => ?_) (fun h50 => ?_)
                · skip
                  refine x_iconstN (n := 0) dX5_as_57 ?_
                  refine y_istore_n (i := 3) (ls2 := [_, _, _, _]) dX5_as_58 rfl (by decide) rfl rfl ?_
                  refine x_goto (tgt := 30) dX5_as_59 rfl ?_
                  refine x_iload_n (i := 3) dX5_as_30 rfl rfl ?_
                  refine x_iload_n (i := 2) dX5_as_31 rfl rfl ?_
                  refine x_iceqN (tgt := 62) (by omega) (by omega) dX5_as_32 rfl (fun h32_1 => ?_) (fun h32_1 => ?_)
                  · exact absurd h32_1 (by decide)
                  · skip
                    refine x_iload_n (i := 3) dX5_as_35 rfl rfl ?_
                    refine x_ifeq (tgt := 62) dX5_as_36 rfl (fun h36_1 => ?_) (fun h36_1 => ?_)
                    · skip
                      refine x_iload_n (i := 3) dX5_as_62 rfl rfl ?_
                      refine x_iload_n (i := 2) dX5_as_63 rfl rfl ?_
                      refine x_icneN (tgt := 76) (by omega) (by omega) dX5_as_64 rfl (fun h64 => ?_) (fun h64 => ?_)
                      · skip
                        refine x_aload_n (i := 0) dX5_as_76 rfl rfl ?_
                        refine x_iconstN (n := 2) dX5_as_77 ?_
                        refine x_v1i dX5_as_78 okX5_no ml_X5_118 rfl rfl (Nat.le_of_ble_eq_true rfl) ⟨by decide, by decide⟩ (Nat.le_of_ble_eq_true rfl) (c_X5_no hS 2 (by decide) (fun τ hτ => ?_))
                        exact x_ireti dX5_as_81 rfl (by first | exact hk σ hS | exact hk τ hτ)
                      · exact absurd h64 (by decide)
                    · exact absurd h36_1 (by decide)
                · exact absurd h50 (by decide)
              · exact absurd h41 (by decide)
        · exact absurd hc2 h14
    | 3, _, 2, _ =>
      rw [if_neg (by decide)] at hk
      refine x_aload_n (i := 0) dX5_as_0 rfl rfl ?_
      refine x_iload_n (i := 1) dX5_as_1 rfl rfl ?_
      refine x_v1i dX5_as_2 okX5_isDriver ml_X5_140 rfl rfl (Nat.le_of_ble_eq_true rfl) ⟨by decide, by decide⟩ (Nat.le_of_ble_eq_true rfl) (c_X5_isDriver hs _ ?_)
      refine x_ifeqP (tgt := 17) dX5_as_5 rfl (fun h5 => ?_) (fun h5 => ?_)
      · exact absurd hc.1 h5
      · skip
        refine x_iload_n (i := 2) dX5_as_8 rfl rfl ?_
        refine x_iconstN (n := 0) dX5_as_9 ?_
        refine x_iconstN (n := 5) dX5_as_10 ?_
        refine x_s3i dX5_as_11 okX5_in1 ml_X5_52 (Nat.le_of_ble_eq_true rfl) ⟨by decide, by decide⟩ (Nat.le_of_ble_eq_true rfl) (c_inN (n := 5) (by decide) _ ?_)
        refine x_ifneP (tgt := 23) dX5_as_14 rfl (fun h14 => ?_) (fun h14 => ?_)
        · skip
          refine x_aload_n (i := 0) dX5_as_23 rfl rfl ?_
          refine x_iload_n (i := 1) dX5_as_24 rfl rfl ?_
          refine x_iconstN (n := 0) dX5_as_25 ?_
          refine x_v2i dX5_as_26 okX5_get ml_X5_92 rfl rfl (Nat.le_of_ble_eq_true rfl) ⟨by decide, by decide⟩ (Nat.le_of_ble_eq_true rfl) (c_get0 hs hd ?_)
          refine x_top ex ?_
          refine y_istore_n (i := 3) (ls2 := [_, _, _, _]) dX5_as_29 rfl (by decide) rfl rfl ?_
          refine x_iload_n (i := 3) dX5_as_30 rfl rfl ?_
          refine x_iload_n (i := 2) dX5_as_31 rfl rfl ?_
          refine x_iceqN (tgt := 62) (by omega) (by omega) dX5_as_32 rfl (fun h32 => ?_) (fun h32 => ?_)
          · exact absurd h32 (by decide)
          · skip
            refine x_iload_n (i := 3) dX5_as_35 rfl rfl ?_
            refine x_ifeq (tgt := 62) dX5_as_36 rfl (fun h36 => ?_) (fun h36 => ?_)
            · exact absurd h36 (by decide)
            · skip
              refine x_iload_n (i := 3) dX5_as_39 rfl rfl ?_
              refine x_iconstN (n := 4) dX5_as_40 ?_
              refine x_icneN (tgt := 48) (by omega) (by omega) dX5_as_41 rfl (fun h41 => ?_) (fun h41 => ?_)
              · skip
                refine x_iload_n (i := 3) dX5_as_48 rfl rfl ?_
                refine x_iconstN (n := 5) dX5_as_49 ?_
                refine x_icneN (tgt := 57) (by omega) (by omega) dX5_as_50 rfl (fun h50 => ?_) (fun h50 => ?_)
                · skip
                  refine x_iconstN (n := 0) dX5_as_57 ?_
                  refine y_istore_n (i := 3) (ls2 := [_, _, _, _]) dX5_as_58 rfl (by decide) rfl rfl ?_
                  refine x_goto (tgt := 30) dX5_as_59 rfl ?_
                  refine x_iload_n (i := 3) dX5_as_30 rfl rfl ?_
                  refine x_iload_n (i := 2) dX5_as_31 rfl rfl ?_
                  refine x_iceqN (tgt := 62) (by omega) (by omega) dX5_as_32 rfl (fun h32_1 => ?_) (fun h32_1 => ?_)
                  · exact absurd h32_1 (by decide)
                  · skip
                    refine x_iload_n (i := 3) dX5_as_35 rfl rfl ?_
                    refine x_ifeq (tgt := 62) dX5_as_36 rfl (fun h36_1 => ?_) (fun h36_1 => ?_)
                    · skip
                      refine x_iload_n (i := 3) dX5_as_62 rfl rfl ?_
                      refine x_iload_n (i := 2) dX5_as_63 rfl rfl ?_
                      refine x_icneN (tgt := 76) (by omega) (by omega) dX5_as_64 rfl (fun h64 => ?_) (fun h64 => ?_)
                      · skip
                        refine x_aload_n (i := 0) dX5_as_76 rfl rfl ?_
                        refine x_iconstN (n := 2) dX5_as_77 ?_
                        refine x_v1i dX5_as_78 okX5_no ml_X5_118 rfl rfl (Nat.le_of_ble_eq_true rfl) ⟨by decide, by decide⟩ (Nat.le_of_ble_eq_true rfl) (c_X5_no hS 2 (by decide) (fun τ hτ => ?_))
                        exact x_ireti dX5_as_81 rfl (by first | exact hk σ hS | exact hk τ hτ)
                      · exact absurd h64 (by decide)
                    · exact absurd h36_1 (by decide)
                · exact absurd h50 (by decide)
              · exact absurd h41 (by decide)
        · exact absurd hc2 h14
    | 3, _, 3, _ =>
      rw [if_pos (by decide)] at hk
      refine x_aload_n (i := 0) dX5_as_0 rfl rfl ?_
      refine x_iload_n (i := 1) dX5_as_1 rfl rfl ?_
      refine x_v1i dX5_as_2 okX5_isDriver ml_X5_140 rfl rfl (Nat.le_of_ble_eq_true rfl) ⟨by decide, by decide⟩ (Nat.le_of_ble_eq_true rfl) (c_X5_isDriver hs _ ?_)
      refine x_ifeqP (tgt := 17) dX5_as_5 rfl (fun h5 => ?_) (fun h5 => ?_)
      · exact absurd hc.1 h5
      · skip
        refine x_iload_n (i := 2) dX5_as_8 rfl rfl ?_
        refine x_iconstN (n := 0) dX5_as_9 ?_
        refine x_iconstN (n := 5) dX5_as_10 ?_
        refine x_s3i dX5_as_11 okX5_in1 ml_X5_52 (Nat.le_of_ble_eq_true rfl) ⟨by decide, by decide⟩ (Nat.le_of_ble_eq_true rfl) (c_inN (n := 5) (by decide) _ ?_)
        refine x_ifneP (tgt := 23) dX5_as_14 rfl (fun h14 => ?_) (fun h14 => ?_)
        · skip
          refine x_aload_n (i := 0) dX5_as_23 rfl rfl ?_
          refine x_iload_n (i := 1) dX5_as_24 rfl rfl ?_
          refine x_iconstN (n := 0) dX5_as_25 ?_
          refine x_v2i dX5_as_26 okX5_get ml_X5_92 rfl rfl (Nat.le_of_ble_eq_true rfl) ⟨by decide, by decide⟩ (Nat.le_of_ble_eq_true rfl) (c_get0 hs hd ?_)
          refine x_top ex ?_
          refine y_istore_n (i := 3) (ls2 := [_, _, _, _]) dX5_as_29 rfl (by decide) rfl rfl ?_
          refine x_iload_n (i := 3) dX5_as_30 rfl rfl ?_
          refine x_iload_n (i := 2) dX5_as_31 rfl rfl ?_
          refine x_iceqN (tgt := 62) (by omega) (by omega) dX5_as_32 rfl (fun h32 => ?_) (fun h32 => ?_)
          · skip
            refine x_iload_n (i := 3) dX5_as_62 rfl rfl ?_
            refine x_iload_n (i := 2) dX5_as_63 rfl rfl ?_
            refine x_icneN (tgt := 76) (by omega) (by omega) dX5_as_64 rfl (fun h64 => ?_) (fun h64 => ?_)
            · exact absurd h64 (by decide)
            · skip
              refine x_aload_n (i := 0) dX5_as_67 rfl rfl ?_
              refine x_iload_n (i := 1) dX5_as_68 rfl rfl ?_
              refine x_iconstN (n := 1) dX5_as_69 ?_
              refine x_v2i dX5_as_70 okX5_get ml_X5_92 rfl rfl (Nat.le_of_ble_eq_true rfl) ⟨by decide, by decide⟩ (Nat.le_of_ble_eq_true rfl) (c_get1 hs hd ?_)
              refine x_goto (tgt := 81) dX5_as_73 rfl ?_
              exact x_ireti dX5_as_81 rfl (by first | exact hk σ hS | exact hk τ hτ)
          · exact absurd h32 (by decide)
        · exact absurd hc2 h14
    | 3, _, 4, _ =>
      rw [if_neg (by decide)] at hk
      refine x_aload_n (i := 0) dX5_as_0 rfl rfl ?_
      refine x_iload_n (i := 1) dX5_as_1 rfl rfl ?_
      refine x_v1i dX5_as_2 okX5_isDriver ml_X5_140 rfl rfl (Nat.le_of_ble_eq_true rfl) ⟨by decide, by decide⟩ (Nat.le_of_ble_eq_true rfl) (c_X5_isDriver hs _ ?_)
      refine x_ifeqP (tgt := 17) dX5_as_5 rfl (fun h5 => ?_) (fun h5 => ?_)
      · exact absurd hc.1 h5
      · skip
        refine x_iload_n (i := 2) dX5_as_8 rfl rfl ?_
        refine x_iconstN (n := 0) dX5_as_9 ?_
        refine x_iconstN (n := 5) dX5_as_10 ?_
        refine x_s3i dX5_as_11 okX5_in1 ml_X5_52 (Nat.le_of_ble_eq_true rfl) ⟨by decide, by decide⟩ (Nat.le_of_ble_eq_true rfl) (c_inN (n := 5) (by decide) _ ?_)
        refine x_ifneP (tgt := 23) dX5_as_14 rfl (fun h14 => ?_) (fun h14 => ?_)
        · skip
          refine x_aload_n (i := 0) dX5_as_23 rfl rfl ?_
          refine x_iload_n (i := 1) dX5_as_24 rfl rfl ?_
          refine x_iconstN (n := 0) dX5_as_25 ?_
          refine x_v2i dX5_as_26 okX5_get ml_X5_92 rfl rfl (Nat.le_of_ble_eq_true rfl) ⟨by decide, by decide⟩ (Nat.le_of_ble_eq_true rfl) (c_get0 hs hd ?_)
          refine x_top ex ?_
          refine y_istore_n (i := 3) (ls2 := [_, _, _, _]) dX5_as_29 rfl (by decide) rfl rfl ?_
          refine x_iload_n (i := 3) dX5_as_30 rfl rfl ?_
          refine x_iload_n (i := 2) dX5_as_31 rfl rfl ?_
          refine x_iceqN (tgt := 62) (by omega) (by omega) dX5_as_32 rfl (fun h32 => ?_) (fun h32 => ?_)
          · exact absurd h32 (by decide)
          · skip
            refine x_iload_n (i := 3) dX5_as_35 rfl rfl ?_
            refine x_ifeq (tgt := 62) dX5_as_36 rfl (fun h36 => ?_) (fun h36 => ?_)
            · exact absurd h36 (by decide)
            · skip
              refine x_iload_n (i := 3) dX5_as_39 rfl rfl ?_
              refine x_iconstN (n := 4) dX5_as_40 ?_
              refine x_icneN (tgt := 48) (by omega) (by omega) dX5_as_41 rfl (fun h41 => ?_) (fun h41 => ?_)
              · skip
                refine x_iload_n (i := 3) dX5_as_48 rfl rfl ?_
                refine x_iconstN (n := 5) dX5_as_49 ?_
                refine x_icneN (tgt := 57) (by omega) (by omega) dX5_as_50 rfl (fun h50 => ?_) (fun h50 => ?_)
                · skip
                  refine x_iconstN (n := 0) dX5_as_57 ?_
                  refine y_istore_n (i := 3) (ls2 := [_, _, _, _]) dX5_as_58 rfl (by decide) rfl rfl ?_
                  refine x_goto (tgt := 30) dX5_as_59 rfl ?_
                  refine x_iload_n (i := 3) dX5_as_30 rfl rfl ?_
                  refine x_iload_n (i := 2) dX5_as_31 rfl rfl ?_
                  refine x_iceqN (tgt := 62) (by omega) (by omega) dX5_as_32 rfl (fun h32_1 => ?_) (fun h32_1 => ?_)
                  · exact absurd h32_1 (by decide)
                  · skip
                    refine x_iload_n (i := 3) dX5_as_35 rfl rfl ?_
                    refine x_ifeq (tgt := 62) dX5_as_36 rfl (fun h36_1 => ?_) (fun h36_1 => ?_)
                    · skip
                      refine x_iload_n (i := 3) dX5_as_62 rfl rfl ?_
                      refine x_iload_n (i := 2) dX5_as_63 rfl rfl ?_
                      refine x_icneN (tgt := 76) (by omega) (by omega) dX5_as_64 rfl (fun h64 => ?_) (fun h64 => ?_)
                      · skip
                        refine x_aload_n (i := 0) dX5_as_76 rfl rfl ?_
                        refine x_iconstN (n := 2) dX5_as_77 ?_
                        refine x_v1i dX5_as_78 okX5_no ml_X5_118 rfl rfl (Nat.le_of_ble_eq_true rfl) ⟨by decide, by decide⟩ (Nat.le_of_ble_eq_true rfl) (c_X5_no hS 2 (by decide) (fun τ hτ => ?_))
                        exact x_ireti dX5_as_81 rfl (by first | exact hk σ hS | exact hk τ hτ)
                      · exact absurd h64 (by decide)
                    · exact absurd h36_1 (by decide)
                · exact absurd h50 (by decide)
              · exact absurd h41 (by decide)
        · exact absurd hc2 h14
    | 3, _, 5, _ =>
      rw [if_neg (by decide)] at hk
      refine x_aload_n (i := 0) dX5_as_0 rfl rfl ?_
      refine x_iload_n (i := 1) dX5_as_1 rfl rfl ?_
      refine x_v1i dX5_as_2 okX5_isDriver ml_X5_140 rfl rfl (Nat.le_of_ble_eq_true rfl) ⟨by decide, by decide⟩ (Nat.le_of_ble_eq_true rfl) (c_X5_isDriver hs _ ?_)
      refine x_ifeqP (tgt := 17) dX5_as_5 rfl (fun h5 => ?_) (fun h5 => ?_)
      · exact absurd hc.1 h5
      · skip
        refine x_iload_n (i := 2) dX5_as_8 rfl rfl ?_
        refine x_iconstN (n := 0) dX5_as_9 ?_
        refine x_iconstN (n := 5) dX5_as_10 ?_
        refine x_s3i dX5_as_11 okX5_in1 ml_X5_52 (Nat.le_of_ble_eq_true rfl) ⟨by decide, by decide⟩ (Nat.le_of_ble_eq_true rfl) (c_inN (n := 5) (by decide) _ ?_)
        refine x_ifneP (tgt := 23) dX5_as_14 rfl (fun h14 => ?_) (fun h14 => ?_)
        · skip
          refine x_aload_n (i := 0) dX5_as_23 rfl rfl ?_
          refine x_iload_n (i := 1) dX5_as_24 rfl rfl ?_
          refine x_iconstN (n := 0) dX5_as_25 ?_
          refine x_v2i dX5_as_26 okX5_get ml_X5_92 rfl rfl (Nat.le_of_ble_eq_true rfl) ⟨by decide, by decide⟩ (Nat.le_of_ble_eq_true rfl) (c_get0 hs hd ?_)
          refine x_top ex ?_
          refine y_istore_n (i := 3) (ls2 := [_, _, _, _]) dX5_as_29 rfl (by decide) rfl rfl ?_
          refine x_iload_n (i := 3) dX5_as_30 rfl rfl ?_
          refine x_iload_n (i := 2) dX5_as_31 rfl rfl ?_
          refine x_iceqN (tgt := 62) (by omega) (by omega) dX5_as_32 rfl (fun h32 => ?_) (fun h32 => ?_)
          · exact absurd h32 (by decide)
          · skip
            refine x_iload_n (i := 3) dX5_as_35 rfl rfl ?_
            refine x_ifeq (tgt := 62) dX5_as_36 rfl (fun h36 => ?_) (fun h36 => ?_)
            · exact absurd h36 (by decide)
            · skip
              refine x_iload_n (i := 3) dX5_as_39 rfl rfl ?_
              refine x_iconstN (n := 4) dX5_as_40 ?_
              refine x_icneN (tgt := 48) (by omega) (by omega) dX5_as_41 rfl (fun h41 => ?_) (fun h41 => ?_)
              · skip
                refine x_iload_n (i := 3) dX5_as_48 rfl rfl ?_
                refine x_iconstN (n := 5) dX5_as_49 ?_
                refine x_icneN (tgt := 57) (by omega) (by omega) dX5_as_50 rfl (fun h50 => ?_) (fun h50 => ?_)
                · skip
                  refine x_iconstN (n := 0) dX5_as_57 ?_
                  refine y_istore_n (i := 3) (ls2 := [_, _, _, _]) dX5_as_58 rfl (by decide) rfl rfl ?_
                  refine x_goto (tgt := 30) dX5_as_59 rfl ?_
                  refine x_iload_n (i := 3) dX5_as_30 rfl rfl ?_
                  refine x_iload_n (i := 2) dX5_as_31 rfl rfl ?_
                  refine x_iceqN (tgt := 62) (by omega) (by omega) dX5_as_32 rfl (fun h32_1 => ?_) (fun h32_1 => ?_)
                  · exact absurd h32_1 (by decide)
                  · skip
                    refine x_iload_n (i := 3) dX5_as_35 rfl rfl ?_
                    refine x_ifeq (tgt := 62) dX5_as_36 rfl (fun h36_1 => ?_) (fun h36_1 => ?_)
                    · skip
                      refine x_iload_n (i := 3) dX5_as_62 rfl rfl ?_
                      refine x_iload_n (i := 2) dX5_as_63 rfl rfl ?_
                      refine x_icneN (tgt := 76) (by omega) (by omega) dX5_as_64 rfl (fun h64 => ?_) (fun h64 => ?_)
                      · skip
                        refine x_aload_n (i := 0) dX5_as_76 rfl rfl ?_
                        refine x_iconstN (n := 2) dX5_as_77 ?_
                        refine x_v1i dX5_as_78 okX5_no ml_X5_118 rfl rfl (Nat.le_of_ble_eq_true rfl) ⟨by decide, by decide⟩ (Nat.le_of_ble_eq_true rfl) (c_X5_no hS 2 (by decide) (fun τ hτ => ?_))
                        exact x_ireti dX5_as_81 rfl (by first | exact hk σ hS | exact hk τ hτ)
                      · exact absurd h64 (by decide)
                    · exact absurd h36_1 (by decide)
                · exact absurd h50 (by decide)
              · exact absurd h41 (by decide)
        · exact absurd hc2 h14
    | 4, _, 0, _ =>
      rw [if_pos (by decide)] at hk
      refine x_aload_n (i := 0) dX5_as_0 rfl rfl ?_
      refine x_iload_n (i := 1) dX5_as_1 rfl rfl ?_
      refine x_v1i dX5_as_2 okX5_isDriver ml_X5_140 rfl rfl (Nat.le_of_ble_eq_true rfl) ⟨by decide, by decide⟩ (Nat.le_of_ble_eq_true rfl) (c_X5_isDriver hs _ ?_)
      refine x_ifeqP (tgt := 17) dX5_as_5 rfl (fun h5 => ?_) (fun h5 => ?_)
      · exact absurd hc.1 h5
      · skip
        refine x_iload_n (i := 2) dX5_as_8 rfl rfl ?_
        refine x_iconstN (n := 0) dX5_as_9 ?_
        refine x_iconstN (n := 5) dX5_as_10 ?_
        refine x_s3i dX5_as_11 okX5_in1 ml_X5_52 (Nat.le_of_ble_eq_true rfl) ⟨by decide, by decide⟩ (Nat.le_of_ble_eq_true rfl) (c_inN (n := 5) (by decide) _ ?_)
        refine x_ifneP (tgt := 23) dX5_as_14 rfl (fun h14 => ?_) (fun h14 => ?_)
        · skip
          refine x_aload_n (i := 0) dX5_as_23 rfl rfl ?_
          refine x_iload_n (i := 1) dX5_as_24 rfl rfl ?_
          refine x_iconstN (n := 0) dX5_as_25 ?_
          refine x_v2i dX5_as_26 okX5_get ml_X5_92 rfl rfl (Nat.le_of_ble_eq_true rfl) ⟨by decide, by decide⟩ (Nat.le_of_ble_eq_true rfl) (c_get0 hs hd ?_)
          refine x_top ex ?_
          refine y_istore_n (i := 3) (ls2 := [_, _, _, _]) dX5_as_29 rfl (by decide) rfl rfl ?_
          refine x_iload_n (i := 3) dX5_as_30 rfl rfl ?_
          refine x_iload_n (i := 2) dX5_as_31 rfl rfl ?_
          refine x_iceqN (tgt := 62) (by omega) (by omega) dX5_as_32 rfl (fun h32 => ?_) (fun h32 => ?_)
          · exact absurd h32 (by decide)
          · skip
            refine x_iload_n (i := 3) dX5_as_35 rfl rfl ?_
            refine x_ifeq (tgt := 62) dX5_as_36 rfl (fun h36 => ?_) (fun h36 => ?_)
            · exact absurd h36 (by decide)
            · skip
              refine x_iload_n (i := 3) dX5_as_39 rfl rfl ?_
              refine x_iconstN (n := 4) dX5_as_40 ?_
              refine x_icneN (tgt := 48) (by omega) (by omega) dX5_as_41 rfl (fun h41 => ?_) (fun h41 => ?_)
              · exact absurd h41 (by decide)
              · skip
                refine x_iconstN (n := 1) dX5_as_44 ?_
                refine x_goto (tgt := 58) dX5_as_45 rfl ?_
                refine y_istore_n (i := 3) (ls2 := [_, _, _, _]) dX5_as_58 rfl (by decide) rfl rfl ?_
                refine x_goto (tgt := 30) dX5_as_59 rfl ?_
                refine x_iload_n (i := 3) dX5_as_30 rfl rfl ?_
                refine x_iload_n (i := 2) dX5_as_31 rfl rfl ?_
                refine x_iceqN (tgt := 62) (by omega) (by omega) dX5_as_32 rfl (fun h32_1 => ?_) (fun h32_1 => ?_)
                · exact absurd h32_1 (by decide)
                · skip
                  refine x_iload_n (i := 3) dX5_as_35 rfl rfl ?_
                  refine x_ifeq (tgt := 62) dX5_as_36 rfl (fun h36_1 => ?_) (fun h36_1 => ?_)
                  · exact absurd h36_1 (by decide)
                  · skip
                    refine x_iload_n (i := 3) dX5_as_39 rfl rfl ?_
                    refine x_iconstN (n := 4) dX5_as_40 ?_
                    refine x_icneN (tgt := 48) (by omega) (by omega) dX5_as_41 rfl (fun h41_1 => ?_) (fun h41_1 => ?_)
                    · skip
                      refine x_iload_n (i := 3) dX5_as_48 rfl rfl ?_
                      refine x_iconstN (n := 5) dX5_as_49 ?_
                      refine x_icneN (tgt := 57) (by omega) (by omega) dX5_as_50 rfl (fun h50 => ?_) (fun h50 => ?_)
                      · skip
                        refine x_iconstN (n := 0) dX5_as_57 ?_
                        refine y_istore_n (i := 3) (ls2 := [_, _, _, _]) dX5_as_58 rfl (by decide) rfl rfl ?_
                        refine x_goto (tgt := 30) dX5_as_59 rfl ?_
                        refine x_iload_n (i := 3) dX5_as_30 rfl rfl ?_
                        refine x_iload_n (i := 2) dX5_as_31 rfl rfl ?_
                        refine x_iceqN (tgt := 62) (by omega) (by omega) dX5_as_32 rfl (fun h32_2 => ?_) (fun h32_2 => ?_)
                        · skip
                          refine x_iload_n (i := 3) dX5_as_62 rfl rfl ?_
                          refine x_iload_n (i := 2) dX5_as_63 rfl rfl ?_
                          refine x_icneN (tgt := 76) (by omega) (by omega) dX5_as_64 rfl (fun h64 => ?_) (fun h64 => ?_)
                          · exact absurd h64 (by decide)
                          · skip
                            refine x_aload_n (i := 0) dX5_as_67 rfl rfl ?_
                            refine x_iload_n (i := 1) dX5_as_68 rfl rfl ?_
                            refine x_iconstN (n := 1) dX5_as_69 ?_
                            refine x_v2i dX5_as_70 okX5_get ml_X5_92 rfl rfl (Nat.le_of_ble_eq_true rfl) ⟨by decide, by decide⟩ (Nat.le_of_ble_eq_true rfl) (c_get1 hs hd ?_)
                            refine x_goto (tgt := 81) dX5_as_73 rfl ?_
                            exact x_ireti dX5_as_81 rfl (by first | exact hk σ hS | exact hk τ hτ)
                        · exact absurd h32_2 (by decide)
                      · exact absurd h50 (by decide)
                    · exact absurd h41_1 (by decide)
        · exact absurd hc2 h14
    | 4, _, 1, _ =>
      rw [if_pos (by decide)] at hk
      refine x_aload_n (i := 0) dX5_as_0 rfl rfl ?_
      refine x_iload_n (i := 1) dX5_as_1 rfl rfl ?_
      refine x_v1i dX5_as_2 okX5_isDriver ml_X5_140 rfl rfl (Nat.le_of_ble_eq_true rfl) ⟨by decide, by decide⟩ (Nat.le_of_ble_eq_true rfl) (c_X5_isDriver hs _ ?_)
      refine x_ifeqP (tgt := 17) dX5_as_5 rfl (fun h5 => ?_) (fun h5 => ?_)
      · exact absurd hc.1 h5
      · skip
        refine x_iload_n (i := 2) dX5_as_8 rfl rfl ?_
        refine x_iconstN (n := 0) dX5_as_9 ?_
        refine x_iconstN (n := 5) dX5_as_10 ?_
        refine x_s3i dX5_as_11 okX5_in1 ml_X5_52 (Nat.le_of_ble_eq_true rfl) ⟨by decide, by decide⟩ (Nat.le_of_ble_eq_true rfl) (c_inN (n := 5) (by decide) _ ?_)
        refine x_ifneP (tgt := 23) dX5_as_14 rfl (fun h14 => ?_) (fun h14 => ?_)
        · skip
          refine x_aload_n (i := 0) dX5_as_23 rfl rfl ?_
          refine x_iload_n (i := 1) dX5_as_24 rfl rfl ?_
          refine x_iconstN (n := 0) dX5_as_25 ?_
          refine x_v2i dX5_as_26 okX5_get ml_X5_92 rfl rfl (Nat.le_of_ble_eq_true rfl) ⟨by decide, by decide⟩ (Nat.le_of_ble_eq_true rfl) (c_get0 hs hd ?_)
          refine x_top ex ?_
          refine y_istore_n (i := 3) (ls2 := [_, _, _, _]) dX5_as_29 rfl (by decide) rfl rfl ?_
          refine x_iload_n (i := 3) dX5_as_30 rfl rfl ?_
          refine x_iload_n (i := 2) dX5_as_31 rfl rfl ?_
          refine x_iceqN (tgt := 62) (by omega) (by omega) dX5_as_32 rfl (fun h32 => ?_) (fun h32 => ?_)
          · exact absurd h32 (by decide)
          · skip
            refine x_iload_n (i := 3) dX5_as_35 rfl rfl ?_
            refine x_ifeq (tgt := 62) dX5_as_36 rfl (fun h36 => ?_) (fun h36 => ?_)
            · exact absurd h36 (by decide)
            · skip
              refine x_iload_n (i := 3) dX5_as_39 rfl rfl ?_
              refine x_iconstN (n := 4) dX5_as_40 ?_
              refine x_icneN (tgt := 48) (by omega) (by omega) dX5_as_41 rfl (fun h41 => ?_) (fun h41 => ?_)
              · exact absurd h41 (by decide)
              · skip
                refine x_iconstN (n := 1) dX5_as_44 ?_
                refine x_goto (tgt := 58) dX5_as_45 rfl ?_
                refine y_istore_n (i := 3) (ls2 := [_, _, _, _]) dX5_as_58 rfl (by decide) rfl rfl ?_
                refine x_goto (tgt := 30) dX5_as_59 rfl ?_
                refine x_iload_n (i := 3) dX5_as_30 rfl rfl ?_
                refine x_iload_n (i := 2) dX5_as_31 rfl rfl ?_
                refine x_iceqN (tgt := 62) (by omega) (by omega) dX5_as_32 rfl (fun h32_1 => ?_) (fun h32_1 => ?_)
                · skip
                  refine x_iload_n (i := 3) dX5_as_62 rfl rfl ?_
                  refine x_iload_n (i := 2) dX5_as_63 rfl rfl ?_
                  refine x_icneN (tgt := 76) (by omega) (by omega) dX5_as_64 rfl (fun h64 => ?_) (fun h64 => ?_)
                  · exact absurd h64 (by decide)
                  · skip
                    refine x_aload_n (i := 0) dX5_as_67 rfl rfl ?_
                    refine x_iload_n (i := 1) dX5_as_68 rfl rfl ?_
                    refine x_iconstN (n := 1) dX5_as_69 ?_
                    refine x_v2i dX5_as_70 okX5_get ml_X5_92 rfl rfl (Nat.le_of_ble_eq_true rfl) ⟨by decide, by decide⟩ (Nat.le_of_ble_eq_true rfl) (c_get1 hs hd ?_)
                    refine x_goto (tgt := 81) dX5_as_73 rfl ?_
                    exact x_ireti dX5_as_81 rfl (by first | exact hk σ hS | exact hk τ hτ)
                · exact absurd h32_1 (by decide)
        · exact absurd hc2 h14
    | 4, _, 2, _ =>
      rw [if_neg (by decide)] at hk
      refine x_aload_n (i := 0) dX5_as_0 rfl rfl ?_
      refine x_iload_n (i := 1) dX5_as_1 rfl rfl ?_
      refine x_v1i dX5_as_2 okX5_isDriver ml_X5_140 rfl rfl (Nat.le_of_ble_eq_true rfl) ⟨by decide, by decide⟩ (Nat.le_of_ble_eq_true rfl) (c_X5_isDriver hs _ ?_)
      refine x_ifeqP (tgt := 17) dX5_as_5 rfl (fun h5 => ?_) (fun h5 => ?_)
      · exact absurd hc.1 h5
      · skip
        refine x_iload_n (i := 2) dX5_as_8 rfl rfl ?_
        refine x_iconstN (n := 0) dX5_as_9 ?_
        refine x_iconstN (n := 5) dX5_as_10 ?_
        refine x_s3i dX5_as_11 okX5_in1 ml_X5_52 (Nat.le_of_ble_eq_true rfl) ⟨by decide, by decide⟩ (Nat.le_of_ble_eq_true rfl) (c_inN (n := 5) (by decide) _ ?_)
        refine x_ifneP (tgt := 23) dX5_as_14 rfl (fun h14 => ?_) (fun h14 => ?_)
        · skip
          refine x_aload_n (i := 0) dX5_as_23 rfl rfl ?_
          refine x_iload_n (i := 1) dX5_as_24 rfl rfl ?_
          refine x_iconstN (n := 0) dX5_as_25 ?_
          refine x_v2i dX5_as_26 okX5_get ml_X5_92 rfl rfl (Nat.le_of_ble_eq_true rfl) ⟨by decide, by decide⟩ (Nat.le_of_ble_eq_true rfl) (c_get0 hs hd ?_)
          refine x_top ex ?_
          refine y_istore_n (i := 3) (ls2 := [_, _, _, _]) dX5_as_29 rfl (by decide) rfl rfl ?_
          refine x_iload_n (i := 3) dX5_as_30 rfl rfl ?_
          refine x_iload_n (i := 2) dX5_as_31 rfl rfl ?_
          refine x_iceqN (tgt := 62) (by omega) (by omega) dX5_as_32 rfl (fun h32 => ?_) (fun h32 => ?_)
          · exact absurd h32 (by decide)
          · skip
            refine x_iload_n (i := 3) dX5_as_35 rfl rfl ?_
            refine x_ifeq (tgt := 62) dX5_as_36 rfl (fun h36 => ?_) (fun h36 => ?_)
            · exact absurd h36 (by decide)
            · skip
              refine x_iload_n (i := 3) dX5_as_39 rfl rfl ?_
              refine x_iconstN (n := 4) dX5_as_40 ?_
              refine x_icneN (tgt := 48) (by omega) (by omega) dX5_as_41 rfl (fun h41 => ?_) (fun h41 => ?_)
              · exact absurd h41 (by decide)
              · skip
                refine x_iconstN (n := 1) dX5_as_44 ?_
                refine x_goto (tgt := 58) dX5_as_45 rfl ?_
                refine y_istore_n (i := 3) (ls2 := [_, _, _, _]) dX5_as_58 rfl (by decide) rfl rfl ?_
                refine x_goto (tgt := 30) dX5_as_59 rfl ?_
                refine x_iload_n (i := 3) dX5_as_30 rfl rfl ?_
                refine x_iload_n (i := 2) dX5_as_31 rfl rfl ?_
                refine x_iceqN (tgt := 62) (by omega) (by omega) dX5_as_32 rfl (fun h32_1 => ?_) (fun h32_1 => ?_)
                · exact absurd h32_1 (by decide)
                · skip
                  refine x_iload_n (i := 3) dX5_as_35 rfl rfl ?_
                  refine x_ifeq (tgt := 62) dX5_as_36 rfl (fun h36_1 => ?_) (fun h36_1 => ?_)
                  · exact absurd h36_1 (by decide)
                  · skip
                    refine x_iload_n (i := 3) dX5_as_39 rfl rfl ?_
                    refine x_iconstN (n := 4) dX5_as_40 ?_
                    refine x_icneN (tgt := 48) (by omega) (by omega) dX5_as_41 rfl (fun h41_1 => ?_) (fun h41_1 => ?_)
                    · skip
                      refine x_iload_n (i := 3) dX5_as_48 rfl rfl ?_
                      refine x_iconstN (n := 5) dX5_as_49 ?_
                      refine x_icneN (tgt := 57) (by omega) (by omega) dX5_as_50 rfl (fun h50 => ?_) (fun h50 => ?_)
                      · skip
                        refine x_iconstN (n := 0) dX5_as_57 ?_
                        refine y_istore_n (i := 3) (ls2 := [_, _, _, _]) dX5_as_58 rfl (by decide) rfl rfl ?_
                        refine x_goto (tgt := 30) dX5_as_59 rfl ?_
                        refine x_iload_n (i := 3) dX5_as_30 rfl rfl ?_
                        refine x_iload_n (i := 2) dX5_as_31 rfl rfl ?_
                        refine x_iceqN (tgt := 62) (by omega) (by omega) dX5_as_32 rfl (fun h32_2 => ?_) (fun h32_2 => ?_)
                        · exact absurd h32_2 (by decide)
                        · skip
                          refine x_iload_n (i := 3) dX5_as_35 rfl rfl ?_
                          refine x_ifeq (tgt := 62) dX5_as_36 rfl (fun h36_2 => ?_) (fun h36_2 => ?_)
                          · skip
                            refine x_iload_n (i := 3) dX5_as_62 rfl rfl ?_
                            refine x_iload_n (i := 2) dX5_as_63 rfl rfl ?_
                            refine x_icneN (tgt := 76) (by omega) (by omega) dX5_as_64 rfl (fun h64 => ?_) (fun h64 => ?_)
                            · skip
                              refine x_aload_n (i := 0) dX5_as_76 rfl rfl ?_
                              refine x_iconstN (n := 2) dX5_as_77 ?_
                              refine x_v1i dX5_as_78 okX5_no ml_X5_118 rfl rfl (Nat.le_of_ble_eq_true rfl) ⟨by decide, by decide⟩ (Nat.le_of_ble_eq_true rfl) (c_X5_no hS 2 (by decide) (fun τ hτ => ?_))
                              exact x_ireti dX5_as_81 rfl (by first | exact hk σ hS | exact hk τ hτ)
                            · exact absurd h64 (by decide)
                          · exact absurd h36_2 (by decide)
                      · exact absurd h50 (by decide)
                    · exact absurd h41_1 (by decide)
        · exact absurd hc2 h14
    | 4, _, 3, _ =>
      rw [if_neg (by decide)] at hk
      refine x_aload_n (i := 0) dX5_as_0 rfl rfl ?_
      refine x_iload_n (i := 1) dX5_as_1 rfl rfl ?_
      refine x_v1i dX5_as_2 okX5_isDriver ml_X5_140 rfl rfl (Nat.le_of_ble_eq_true rfl) ⟨by decide, by decide⟩ (Nat.le_of_ble_eq_true rfl) (c_X5_isDriver hs _ ?_)
      refine x_ifeqP (tgt := 17) dX5_as_5 rfl (fun h5 => ?_) (fun h5 => ?_)
      · exact absurd hc.1 h5
      · skip
        refine x_iload_n (i := 2) dX5_as_8 rfl rfl ?_
        refine x_iconstN (n := 0) dX5_as_9 ?_
        refine x_iconstN (n := 5) dX5_as_10 ?_
        refine x_s3i dX5_as_11 okX5_in1 ml_X5_52 (Nat.le_of_ble_eq_true rfl) ⟨by decide, by decide⟩ (Nat.le_of_ble_eq_true rfl) (c_inN (n := 5) (by decide) _ ?_)
        refine x_ifneP (tgt := 23) dX5_as_14 rfl (fun h14 => ?_) (fun h14 => ?_)
        · skip
          refine x_aload_n (i := 0) dX5_as_23 rfl rfl ?_
          refine x_iload_n (i := 1) dX5_as_24 rfl rfl ?_
          refine x_iconstN (n := 0) dX5_as_25 ?_
          refine x_v2i dX5_as_26 okX5_get ml_X5_92 rfl rfl (Nat.le_of_ble_eq_true rfl) ⟨by decide, by decide⟩ (Nat.le_of_ble_eq_true rfl) (c_get0 hs hd ?_)
          refine x_top ex ?_
          refine y_istore_n (i := 3) (ls2 := [_, _, _, _]) dX5_as_29 rfl (by decide) rfl rfl ?_
          refine x_iload_n (i := 3) dX5_as_30 rfl rfl ?_
          refine x_iload_n (i := 2) dX5_as_31 rfl rfl ?_
          refine x_iceqN (tgt := 62) (by omega) (by omega) dX5_as_32 rfl (fun h32 => ?_) (fun h32 => ?_)
          · exact absurd h32 (by decide)
          · skip
            refine x_iload_n (i := 3) dX5_as_35 rfl rfl ?_
            refine x_ifeq (tgt := 62) dX5_as_36 rfl (fun h36 => ?_) (fun h36 => ?_)
            · exact absurd h36 (by decide)
            · skip
              refine x_iload_n (i := 3) dX5_as_39 rfl rfl ?_
              refine x_iconstN (n := 4) dX5_as_40 ?_
              refine x_icneN (tgt := 48) (by omega) (by omega) dX5_as_41 rfl (fun h41 => ?_) (fun h41 => ?_)
              · exact absurd h41 (by decide)
              · skip
                refine x_iconstN (n := 1) dX5_as_44 ?_
                refine x_goto (tgt := 58) dX5_as_45 rfl ?_
                refine y_istore_n (i := 3) (ls2 := [_, _, _, _]) dX5_as_58 rfl (by decide) rfl rfl ?_
                refine x_goto (tgt := 30) dX5_as_59 rfl ?_
                refine x_iload_n (i := 3) dX5_as_30 rfl rfl ?_
                refine x_iload_n (i := 2) dX5_as_31 rfl rfl ?_
                refine x_iceqN (tgt := 62) (by omega) (by omega) dX5_as_32 rfl (fun h32_1 => ?_) (fun h32_1 => ?_)
                · exact absurd h32_1 (by decide)
                · skip
                  refine x_iload_n (i := 3) dX5_as_35 rfl rfl ?_
                  refine x_ifeq (tgt := 62) dX5_as_36 rfl (fun h36_1 => ?_) (fun h36_1 => ?_)
                  · exact absurd h36_1 (by decide)
                  · skip
                    refine x_iload_n (i := 3) dX5_as_39 rfl rfl ?_
                    refine x_iconstN (n := 4) dX5_as_40 ?_
                    refine x_icneN (tgt := 48) (by omega) (by omega) dX5_as_41 rfl (fun h41_1 => ?_) (fun h41_1 => ?_)
                    · skip
                      refine x_iload_n (i := 3) dX5_as_48 rfl rfl ?_
                      refine x_iconstN (n := 5) dX5_as_49 ?_
                      refine x_icneN (tgt := 57) (by omega) (by omega) dX5_as_50 rfl (fun h50 => ?_) (fun h50 => ?_)
                      · skip
                        refine x_iconstN (n := 0) dX5_as_57 ?_
                        refine y_istore_n (i := 3) (ls2 := [_, _, _, _]) dX5_as_58 rfl (by decide) rfl rfl ?_
                        refine x_goto (tgt := 30) dX5_as_59 rfl ?_
                        refine x_iload_n (i := 3) dX5_as_30 rfl rfl ?_
                        refine x_iload_n (i := 2) dX5_as_31 rfl rfl ?_
                        refine x_iceqN (tgt := 62) (by omega) (by omega) dX5_as_32 rfl (fun h32_2 => ?_) (fun h32_2 => ?_)
                        · exact absurd h32_2 (by decide)
                        · skip
                          refine x_iload_n (i := 3) dX5_as_35 rfl rfl ?_
                          refine x_ifeq (tgt := 62) dX5_as_36 rfl (fun h36_2 => ?_) (fun h36_2 => ?_)
                          · skip
                            refine x_iload_n (i := 3) dX5_as_62 rfl rfl ?_
                            refine x_iload_n (i := 2) dX5_as_63 rfl rfl ?_
                            refine x_icneN (tgt := 76) (by omega) (by omega) dX5_as_64 rfl (fun h64 => ?_) (fun h64 => ?_)
                            · skip
                              refine x_aload_n (i := 0) dX5_as_76 rfl rfl ?_
                              refine x_iconstN (n := 2) dX5_as_77 ?_
                              refine x_v1i dX5_as_78 okX5_no ml_X5_118 rfl rfl (Nat.le_of_ble_eq_true rfl) ⟨by decide, by decide⟩ (Nat.le_of_ble_eq_true rfl) (c_X5_no hS 2 (by decide) (fun τ hτ => ?_))
                              exact x_ireti dX5_as_81 rfl (by first | exact hk σ hS | exact hk τ hτ)
                            · exact absurd h64 (by decide)
                          · exact absurd h36_2 (by decide)
                      · exact absurd h50 (by decide)
                    · exact absurd h41_1 (by decide)
        · exact absurd hc2 h14
    | 4, _, 4, _ =>
      rw [if_pos (by decide)] at hk
      refine x_aload_n (i := 0) dX5_as_0 rfl rfl ?_
      refine x_iload_n (i := 1) dX5_as_1 rfl rfl ?_
      refine x_v1i dX5_as_2 okX5_isDriver ml_X5_140 rfl rfl (Nat.le_of_ble_eq_true rfl) ⟨by decide, by decide⟩ (Nat.le_of_ble_eq_true rfl) (c_X5_isDriver hs _ ?_)
      refine x_ifeqP (tgt := 17) dX5_as_5 rfl (fun h5 => ?_) (fun h5 => ?_)
      · exact absurd hc.1 h5
      · skip
        refine x_iload_n (i := 2) dX5_as_8 rfl rfl ?_
        refine x_iconstN (n := 0) dX5_as_9 ?_
        refine x_iconstN (n := 5) dX5_as_10 ?_
        refine x_s3i dX5_as_11 okX5_in1 ml_X5_52 (Nat.le_of_ble_eq_true rfl) ⟨by decide, by decide⟩ (Nat.le_of_ble_eq_true rfl) (c_inN (n := 5) (by decide) _ ?_)
        refine x_ifneP (tgt := 23) dX5_as_14 rfl (fun h14 => ?_) (fun h14 => ?_)
        · skip
          refine x_aload_n (i := 0) dX5_as_23 rfl rfl ?_
          refine x_iload_n (i := 1) dX5_as_24 rfl rfl ?_
          refine x_iconstN (n := 0) dX5_as_25 ?_
          refine x_v2i dX5_as_26 okX5_get ml_X5_92 rfl rfl (Nat.le_of_ble_eq_true rfl) ⟨by decide, by decide⟩ (Nat.le_of_ble_eq_true rfl) (c_get0 hs hd ?_)
          refine x_top ex ?_
          refine y_istore_n (i := 3) (ls2 := [_, _, _, _]) dX5_as_29 rfl (by decide) rfl rfl ?_
          refine x_iload_n (i := 3) dX5_as_30 rfl rfl ?_
          refine x_iload_n (i := 2) dX5_as_31 rfl rfl ?_
          refine x_iceqN (tgt := 62) (by omega) (by omega) dX5_as_32 rfl (fun h32 => ?_) (fun h32 => ?_)
          · skip
            refine x_iload_n (i := 3) dX5_as_62 rfl rfl ?_
            refine x_iload_n (i := 2) dX5_as_63 rfl rfl ?_
            refine x_icneN (tgt := 76) (by omega) (by omega) dX5_as_64 rfl (fun h64 => ?_) (fun h64 => ?_)
            · exact absurd h64 (by decide)
            · skip
              refine x_aload_n (i := 0) dX5_as_67 rfl rfl ?_
              refine x_iload_n (i := 1) dX5_as_68 rfl rfl ?_
              refine x_iconstN (n := 1) dX5_as_69 ?_
              refine x_v2i dX5_as_70 okX5_get ml_X5_92 rfl rfl (Nat.le_of_ble_eq_true rfl) ⟨by decide, by decide⟩ (Nat.le_of_ble_eq_true rfl) (c_get1 hs hd ?_)
              refine x_goto (tgt := 81) dX5_as_73 rfl ?_
              exact x_ireti dX5_as_81 rfl (by first | exact hk σ hS | exact hk τ hτ)
          · exact absurd h32 (by decide)
        · exact absurd hc2 h14
    | 4, _, 5, _ =>
      rw [if_neg (by decide)] at hk
      refine x_aload_n (i := 0) dX5_as_0 rfl rfl ?_
      refine x_iload_n (i := 1) dX5_as_1 rfl rfl ?_
      refine x_v1i dX5_as_2 okX5_isDriver ml_X5_140 rfl rfl (Nat.le_of_ble_eq_true rfl) ⟨by decide, by decide⟩ (Nat.le_of_ble_eq_true rfl) (c_X5_isDriver hs _ ?_)
      refine x_ifeqP (tgt := 17) dX5_as_5 rfl (fun h5 => ?_) (fun h5 => ?_)
      · exact absurd hc.1 h5
      · skip
        refine x_iload_n (i := 2) dX5_as_8 rfl rfl ?_
        refine x_iconstN (n := 0) dX5_as_9 ?_
        refine x_iconstN (n := 5) dX5_as_10 ?_
        refine x_s3i dX5_as_11 okX5_in1 ml_X5_52 (Nat.le_of_ble_eq_true rfl) ⟨by decide, by decide⟩ (Nat.le_of_ble_eq_true rfl) (c_inN (n := 5) (by decide) _ ?_)
        refine x_ifneP (tgt := 23) dX5_as_14 rfl (fun h14 => ?_) (fun h14 => ?_)
        · skip
          refine x_aload_n (i := 0) dX5_as_23 rfl rfl ?_
          refine x_iload_n (i := 1) dX5_as_24 rfl rfl ?_
          refine x_iconstN (n := 0) dX5_as_25 ?_
          refine x_v2i dX5_as_26 okX5_get ml_X5_92 rfl rfl (Nat.le_of_ble_eq_true rfl) ⟨by decide, by decide⟩ (Nat.le_of_ble_eq_true rfl) (c_get0 hs hd ?_)
          refine x_top ex ?_
          refine y_istore_n (i := 3) (ls2 := [_, _, _, _]) dX5_as_29 rfl (by decide) rfl rfl ?_
          refine x_iload_n (i := 3) dX5_as_30 rfl rfl ?_
          refine x_iload_n (i := 2) dX5_as_31 rfl rfl ?_
          refine x_iceqN (tgt := 62) (by omega) (by omega) dX5_as_32 rfl (fun h32 => ?_) (fun h32 => ?_)
          · exact absurd h32 (by decide)
          · skip
            refine x_iload_n (i := 3) dX5_as_35 rfl rfl ?_
            refine x_ifeq (tgt := 62) dX5_as_36 rfl (fun h36 => ?_) (fun h36 => ?_)
            · exact absurd h36 (by decide)
            · skip
              refine x_iload_n (i := 3) dX5_as_39 rfl rfl ?_
              refine x_iconstN (n := 4) dX5_as_40 ?_
              refine x_icneN (tgt := 48) (by omega) (by omega) dX5_as_41 rfl (fun h41 => ?_) (fun h41 => ?_)
              · exact absurd h41 (by decide)
              · skip
                refine x_iconstN (n := 1) dX5_as_44 ?_
                refine x_goto (tgt := 58) dX5_as_45 rfl ?_
                refine y_istore_n (i := 3) (ls2 := [_, _, _, _]) dX5_as_58 rfl (by decide) rfl rfl ?_
                refine x_goto (tgt := 30) dX5_as_59 rfl ?_
                refine x_iload_n (i := 3) dX5_as_30 rfl rfl ?_
                refine x_iload_n (i := 2) dX5_as_31 rfl rfl ?_
                refine x_iceqN (tgt := 62) (by omega) (by omega) dX5_as_32 rfl (fun h32_1 => ?_) (fun h32_1 => ?_)
                · exact absurd h32_1 (by decide)
                · skip
                  refine x_iload_n (i := 3) dX5_as_35 rfl rfl ?_
                  refine x_ifeq (tgt := 62) dX5_as_36 rfl (fun h36_1 => ?_) (fun h36_1 => ?_)
                  · exact absurd h36_1 (by decide)
                  · skip
                    refine x_iload_n (i := 3) dX5_as_39 rfl rfl ?_
                    refine x_iconstN (n := 4) dX5_as_40 ?_
                    refine x_icneN (tgt := 48) (by omega) (by omega) dX5_as_41 rfl (fun h41_1 => ?_) (fun h41_1 => ?_)
                    · skip
                      refine x_iload_n (i := 3) dX5_as_48 rfl rfl ?_
                      refine x_iconstN (n := 5) dX5_as_49 ?_
                      refine x_icneN (tgt := 57) (by omega) (by omega) dX5_as_50 rfl (fun h50 => ?_) (fun h50 => ?_)
                      · skip
                        refine x_iconstN (n := 0) dX5_as_57 ?_
                        refine y_istore_n (i := 3) (ls2 := [_, _, _, _]) dX5_as_58 rfl (by decide) rfl rfl ?_
                        refine x_goto (tgt := 30) dX5_as_59 rfl ?_
                        refine x_iload_n (i := 3) dX5_as_30 rfl rfl ?_
                        refine x_iload_n (i := 2) dX5_as_31 rfl rfl ?_
                        refine x_iceqN (tgt := 62) (by omega) (by omega) dX5_as_32 rfl (fun h32_2 => ?_) (fun h32_2 => ?_)
                        · exact absurd h32_2 (by decide)
                        · skip
                          refine x_iload_n (i := 3) dX5_as_35 rfl rfl ?_
                          refine x_ifeq (tgt := 62) dX5_as_36 rfl (fun h36_2 => ?_) (fun h36_2 => ?_)
                          · skip
                            refine x_iload_n (i := 3) dX5_as_62 rfl rfl ?_
                            refine x_iload_n (i := 2) dX5_as_63 rfl rfl ?_
                            refine x_icneN (tgt := 76) (by omega) (by omega) dX5_as_64 rfl (fun h64 => ?_) (fun h64 => ?_)
                            · skip
                              refine x_aload_n (i := 0) dX5_as_76 rfl rfl ?_
                              refine x_iconstN (n := 2) dX5_as_77 ?_
                              refine x_v1i dX5_as_78 okX5_no ml_X5_118 rfl rfl (Nat.le_of_ble_eq_true rfl) ⟨by decide, by decide⟩ (Nat.le_of_ble_eq_true rfl) (c_X5_no hS 2 (by decide) (fun τ hτ => ?_))
                              exact x_ireti dX5_as_81 rfl (by first | exact hk σ hS | exact hk τ hτ)
                            · exact absurd h64 (by decide)
                          · exact absurd h36_2 (by decide)
                      · exact absurd h50 (by decide)
                    · exact absurd h41_1 (by decide)
        · exact absurd hc2 h14
    | 5, _, 0, _ =>
      rw [if_pos (by decide)] at hk
      refine x_aload_n (i := 0) dX5_as_0 rfl rfl ?_
      refine x_iload_n (i := 1) dX5_as_1 rfl rfl ?_
      refine x_v1i dX5_as_2 okX5_isDriver ml_X5_140 rfl rfl (Nat.le_of_ble_eq_true rfl) ⟨by decide, by decide⟩ (Nat.le_of_ble_eq_true rfl) (c_X5_isDriver hs _ ?_)
      refine x_ifeqP (tgt := 17) dX5_as_5 rfl (fun h5 => ?_) (fun h5 => ?_)
      · exact absurd hc.1 h5
      · skip
        refine x_iload_n (i := 2) dX5_as_8 rfl rfl ?_
        refine x_iconstN (n := 0) dX5_as_9 ?_
        refine x_iconstN (n := 5) dX5_as_10 ?_
        refine x_s3i dX5_as_11 okX5_in1 ml_X5_52 (Nat.le_of_ble_eq_true rfl) ⟨by decide, by decide⟩ (Nat.le_of_ble_eq_true rfl) (c_inN (n := 5) (by decide) _ ?_)
        refine x_ifneP (tgt := 23) dX5_as_14 rfl (fun h14 => ?_) (fun h14 => ?_)
        · skip
          refine x_aload_n (i := 0) dX5_as_23 rfl rfl ?_
          refine x_iload_n (i := 1) dX5_as_24 rfl rfl ?_
          refine x_iconstN (n := 0) dX5_as_25 ?_
          refine x_v2i dX5_as_26 okX5_get ml_X5_92 rfl rfl (Nat.le_of_ble_eq_true rfl) ⟨by decide, by decide⟩ (Nat.le_of_ble_eq_true rfl) (c_get0 hs hd ?_)
          refine x_top ex ?_
          refine y_istore_n (i := 3) (ls2 := [_, _, _, _]) dX5_as_29 rfl (by decide) rfl rfl ?_
          refine x_iload_n (i := 3) dX5_as_30 rfl rfl ?_
          refine x_iload_n (i := 2) dX5_as_31 rfl rfl ?_
          refine x_iceqN (tgt := 62) (by omega) (by omega) dX5_as_32 rfl (fun h32 => ?_) (fun h32 => ?_)
          · exact absurd h32 (by decide)
          · skip
            refine x_iload_n (i := 3) dX5_as_35 rfl rfl ?_
            refine x_ifeq (tgt := 62) dX5_as_36 rfl (fun h36 => ?_) (fun h36 => ?_)
            · exact absurd h36 (by decide)
            · skip
              refine x_iload_n (i := 3) dX5_as_39 rfl rfl ?_
              refine x_iconstN (n := 4) dX5_as_40 ?_
              refine x_icneN (tgt := 48) (by omega) (by omega) dX5_as_41 rfl (fun h41 => ?_) (fun h41 => ?_)
              · skip
                refine x_iload_n (i := 3) dX5_as_48 rfl rfl ?_
                refine x_iconstN (n := 5) dX5_as_49 ?_
                refine x_icneN (tgt := 57) (by omega) (by omega) dX5_as_50 rfl (fun h50 => ?_) (fun h50 => ?_)
                · exact absurd h50 (by decide)
                · skip
                  refine x_iconstN (n := 3) dX5_as_53 ?_
                  refine x_goto (tgt := 58) dX5_as_54 rfl ?_
                  refine y_istore_n (i := 3) (ls2 := [_, _, _, _]) dX5_as_58 rfl (by decide) rfl rfl ?_
                  refine x_goto (tgt := 30) dX5_as_59 rfl ?_
                  refine x_iload_n (i := 3) dX5_as_30 rfl rfl ?_
                  refine x_iload_n (i := 2) dX5_as_31 rfl rfl ?_
                  refine x_iceqN (tgt := 62) (by omega) (by omega) dX5_as_32 rfl (fun h32_1 => ?_) (fun h32_1 => ?_)
                  · exact absurd h32_1 (by decide)
                  · skip
                    refine x_iload_n (i := 3) dX5_as_35 rfl rfl ?_
                    refine x_ifeq (tgt := 62) dX5_as_36 rfl (fun h36_1 => ?_) (fun h36_1 => ?_)
                    · exact absurd h36_1 (by decide)
                    · skip
                      refine x_iload_n (i := 3) dX5_as_39 rfl rfl ?_
                      refine x_iconstN (n := 4) dX5_as_40 ?_
                      refine x_icneN (tgt := 48) (by omega) (by omega) dX5_as_41 rfl (fun h41_1 => ?_) (fun h41_1 => ?_)
                      · skip
                        refine x_iload_n (i := 3) dX5_as_48 rfl rfl ?_
                        refine x_iconstN (n := 5) dX5_as_49 ?_
                        refine x_icneN (tgt := 57) (by omega) (by omega) dX5_as_50 rfl (fun h50_1 => ?_) (fun h50_1 => ?_)
                        · skip
                          refine x_iconstN (n := 0) dX5_as_57 ?_
                          refine y_istore_n (i := 3) (ls2 := [_, _, _, _]) dX5_as_58 rfl (by decide) rfl rfl ?_
                          refine x_goto (tgt := 30) dX5_as_59 rfl ?_
                          refine x_iload_n (i := 3) dX5_as_30 rfl rfl ?_
                          refine x_iload_n (i := 2) dX5_as_31 rfl rfl ?_
                          refine x_iceqN (tgt := 62) (by omega) (by omega) dX5_as_32 rfl (fun h32_2 => ?_) (fun h32_2 => ?_)
                          · skip
                            refine x_iload_n (i := 3) dX5_as_62 rfl rfl ?_
                            refine x_iload_n (i := 2) dX5_as_63 rfl rfl ?_
                            refine x_icneN (tgt := 76) (by omega) (by omega) dX5_as_64 rfl (fun h64 => ?_) (fun h64 => ?_)
                            · exact absurd h64 (by decide)
                            · skip
                              refine x_aload_n (i := 0) dX5_as_67 rfl rfl ?_
                              refine x_iload_n (i := 1) dX5_as_68 rfl rfl ?_
                              refine x_iconstN (n := 1) dX5_as_69 ?_
                              refine x_v2i dX5_as_70 okX5_get ml_X5_92 rfl rfl (Nat.le_of_ble_eq_true rfl) ⟨by decide, by decide⟩ (Nat.le_of_ble_eq_true rfl) (c_get1 hs hd ?_)
                              refine x_goto (tgt := 81) dX5_as_73 rfl ?_
                              exact x_ireti dX5_as_81 rfl (by first | exact hk σ hS | exact hk τ hτ)
                          · exact absurd h32_2 (by decide)
                        · exact absurd h50_1 (by decide)
                      · exact absurd h41_1 (by decide)
              · exact absurd h41 (by decide)
        · exact absurd hc2 h14
    | 5, _, 1, _ =>
      rw [if_neg (by decide)] at hk
      refine x_aload_n (i := 0) dX5_as_0 rfl rfl ?_
      refine x_iload_n (i := 1) dX5_as_1 rfl rfl ?_
      refine x_v1i dX5_as_2 okX5_isDriver ml_X5_140 rfl rfl (Nat.le_of_ble_eq_true rfl) ⟨by decide, by decide⟩ (Nat.le_of_ble_eq_true rfl) (c_X5_isDriver hs _ ?_)
      refine x_ifeqP (tgt := 17) dX5_as_5 rfl (fun h5 => ?_) (fun h5 => ?_)
      · exact absurd hc.1 h5
      · skip
        refine x_iload_n (i := 2) dX5_as_8 rfl rfl ?_
        refine x_iconstN (n := 0) dX5_as_9 ?_
        refine x_iconstN (n := 5) dX5_as_10 ?_
        refine x_s3i dX5_as_11 okX5_in1 ml_X5_52 (Nat.le_of_ble_eq_true rfl) ⟨by decide, by decide⟩ (Nat.le_of_ble_eq_true rfl) (c_inN (n := 5) (by decide) _ ?_)
        refine x_ifneP (tgt := 23) dX5_as_14 rfl (fun h14 => ?_) (fun h14 => ?_)
        · skip
          refine x_aload_n (i := 0) dX5_as_23 rfl rfl ?_
          refine x_iload_n (i := 1) dX5_as_24 rfl rfl ?_
          refine x_iconstN (n := 0) dX5_as_25 ?_
          refine x_v2i dX5_as_26 okX5_get ml_X5_92 rfl rfl (Nat.le_of_ble_eq_true rfl) ⟨by decide, by decide⟩ (Nat.le_of_ble_eq_true rfl) (c_get0 hs hd ?_)
          refine x_top ex ?_
          refine y_istore_n (i := 3) (ls2 := [_, _, _, _]) dX5_as_29 rfl (by decide) rfl rfl ?_
          refine x_iload_n (i := 3) dX5_as_30 rfl rfl ?_
          refine x_iload_n (i := 2) dX5_as_31 rfl rfl ?_
          refine x_iceqN (tgt := 62) (by omega) (by omega) dX5_as_32 rfl (fun h32 => ?_) (fun h32 => ?_)
          · exact absurd h32 (by decide)
          · skip
            refine x_iload_n (i := 3) dX5_as_35 rfl rfl ?_
            refine x_ifeq (tgt := 62) dX5_as_36 rfl (fun h36 => ?_) (fun h36 => ?_)
            · exact absurd h36 (by decide)
            · skip
              refine x_iload_n (i := 3) dX5_as_39 rfl rfl ?_
              refine x_iconstN (n := 4) dX5_as_40 ?_
              refine x_icneN (tgt := 48) (by omega) (by omega) dX5_as_41 rfl (fun h41 => ?_) (fun h41 => ?_)
              · skip
                refine x_iload_n (i := 3) dX5_as_48 rfl rfl ?_
                refine x_iconstN (n := 5) dX5_as_49 ?_
                refine x_icneN (tgt := 57) (by omega) (by omega) dX5_as_50 rfl (fun h50 => ?_) (fun h50 => ?_)
                · exact absurd h50 (by decide)
                · skip
                  refine x_iconstN (n := 3) dX5_as_53 ?_
                  refine x_goto (tgt := 58) dX5_as_54 rfl ?_
                  refine y_istore_n (i := 3) (ls2 := [_, _, _, _]) dX5_as_58 rfl (by decide) rfl rfl ?_
                  refine x_goto (tgt := 30) dX5_as_59 rfl ?_
                  refine x_iload_n (i := 3) dX5_as_30 rfl rfl ?_
                  refine x_iload_n (i := 2) dX5_as_31 rfl rfl ?_
                  refine x_iceqN (tgt := 62) (by omega) (by omega) dX5_as_32 rfl (fun h32_1 => ?_) (fun h32_1 => ?_)
                  · exact absurd h32_1 (by decide)
                  · skip
                    refine x_iload_n (i := 3) dX5_as_35 rfl rfl ?_
                    refine x_ifeq (tgt := 62) dX5_as_36 rfl (fun h36_1 => ?_) (fun h36_1 => ?_)
                    · exact absurd h36_1 (by decide)
                    · skip
                      refine x_iload_n (i := 3) dX5_as_39 rfl rfl ?_
                      refine x_iconstN (n := 4) dX5_as_40 ?_
                      refine x_icneN (tgt := 48) (by omega) (by omega) dX5_as_41 rfl (fun h41_1 => ?_) (fun h41_1 => ?_)
                      · skip
                        refine x_iload_n (i := 3) dX5_as_48 rfl rfl ?_
                        refine x_iconstN (n := 5) dX5_as_49 ?_
                        refine x_icneN (tgt := 57) (by omega) (by omega) dX5_as_50 rfl (fun h50_1 => ?_) (fun h50_1 => ?_)
                        · skip
                          refine x_iconstN (n := 0) dX5_as_57 ?_
                          refine y_istore_n (i := 3) (ls2 := [_, _, _, _]) dX5_as_58 rfl (by decide) rfl rfl ?_
                          refine x_goto (tgt := 30) dX5_as_59 rfl ?_
                          refine x_iload_n (i := 3) dX5_as_30 rfl rfl ?_
                          refine x_iload_n (i := 2) dX5_as_31 rfl rfl ?_
                          refine x_iceqN (tgt := 62) (by omega) (by omega) dX5_as_32 rfl (fun h32_2 => ?_) (fun h32_2 => ?_)
                          · exact absurd h32_2 (by decide)
                          · skip
                            refine x_iload_n (i := 3) dX5_as_35 rfl rfl ?_
                            refine x_ifeq (tgt := 62) dX5_as_36 rfl (fun h36_2 => ?_) (fun h36_2 => ?_)
                            · skip
                              refine x_iload_n (i := 3) dX5_as_62 rfl rfl ?_
                              refine x_iload_n (i := 2) dX5_as_63 rfl rfl ?_
                              refine x_icneN (tgt := 76) (by omega) (by omega) dX5_as_64 rfl (fun h64 => ?_) (fun h64 => ?_)
                              · skip
                                refine x_aload_n (i := 0) dX5_as_76 rfl rfl ?_
                                refine x_iconstN (n := 2) dX5_as_77 ?_
                                refine x_v1i dX5_as_78 okX5_no ml_X5_118 rfl rfl (Nat.le_of_ble_eq_true rfl) ⟨by decide, by decide⟩ (Nat.le_of_ble_eq_true rfl) (c_X5_no hS 2 (by decide) (fun τ hτ => ?_))
                                exact x_ireti dX5_as_81 rfl (by first | exact hk σ hS | exact hk τ hτ)
                              · exact absurd h64 (by decide)
                            · exact absurd h36_2 (by decide)
                        · exact absurd h50_1 (by decide)
                      · exact absurd h41_1 (by decide)
              · exact absurd h41 (by decide)
        · exact absurd hc2 h14
    | 5, _, 2, _ =>
      rw [if_neg (by decide)] at hk
      refine x_aload_n (i := 0) dX5_as_0 rfl rfl ?_
      refine x_iload_n (i := 1) dX5_as_1 rfl rfl ?_
      refine x_v1i dX5_as_2 okX5_isDriver ml_X5_140 rfl rfl (Nat.le_of_ble_eq_true rfl) ⟨by decide, by decide⟩ (Nat.le_of_ble_eq_true rfl) (c_X5_isDriver hs _ ?_)
      refine x_ifeqP (tgt := 17) dX5_as_5 rfl (fun h5 => ?_) (fun h5 => ?_)
      · exact absurd hc.1 h5
      · skip
        refine x_iload_n (i := 2) dX5_as_8 rfl rfl ?_
        refine x_iconstN (n := 0) dX5_as_9 ?_
        refine x_iconstN (n := 5) dX5_as_10 ?_
        refine x_s3i dX5_as_11 okX5_in1 ml_X5_52 (Nat.le_of_ble_eq_true rfl) ⟨by decide, by decide⟩ (Nat.le_of_ble_eq_true rfl) (c_inN (n := 5) (by decide) _ ?_)
        refine x_ifneP (tgt := 23) dX5_as_14 rfl (fun h14 => ?_) (fun h14 => ?_)
        · skip
          refine x_aload_n (i := 0) dX5_as_23 rfl rfl ?_
          refine x_iload_n (i := 1) dX5_as_24 rfl rfl ?_
          refine x_iconstN (n := 0) dX5_as_25 ?_
          refine x_v2i dX5_as_26 okX5_get ml_X5_92 rfl rfl (Nat.le_of_ble_eq_true rfl) ⟨by decide, by decide⟩ (Nat.le_of_ble_eq_true rfl) (c_get0 hs hd ?_)
          refine x_top ex ?_
          refine y_istore_n (i := 3) (ls2 := [_, _, _, _]) dX5_as_29 rfl (by decide) rfl rfl ?_
          refine x_iload_n (i := 3) dX5_as_30 rfl rfl ?_
          refine x_iload_n (i := 2) dX5_as_31 rfl rfl ?_
          refine x_iceqN (tgt := 62) (by omega) (by omega) dX5_as_32 rfl (fun h32 => ?_) (fun h32 => ?_)
          · exact absurd h32 (by decide)
          · skip
            refine x_iload_n (i := 3) dX5_as_35 rfl rfl ?_
            refine x_ifeq (tgt := 62) dX5_as_36 rfl (fun h36 => ?_) (fun h36 => ?_)
            · exact absurd h36 (by decide)
            · skip
              refine x_iload_n (i := 3) dX5_as_39 rfl rfl ?_
              refine x_iconstN (n := 4) dX5_as_40 ?_
              refine x_icneN (tgt := 48) (by omega) (by omega) dX5_as_41 rfl (fun h41 => ?_) (fun h41 => ?_)
              · skip
                refine x_iload_n (i := 3) dX5_as_48 rfl rfl ?_
                refine x_iconstN (n := 5) dX5_as_49 ?_
                refine x_icneN (tgt := 57) (by omega) (by omega) dX5_as_50 rfl (fun h50 => ?_) (fun h50 => ?_)
                · exact absurd h50 (by decide)
                · skip
                  refine x_iconstN (n := 3) dX5_as_53 ?_
                  refine x_goto (tgt := 58) dX5_as_54 rfl ?_
                  refine y_istore_n (i := 3) (ls2 := [_, _, _, _]) dX5_as_58 rfl (by decide) rfl rfl ?_
                  refine x_goto (tgt := 30) dX5_as_59 rfl ?_
                  refine x_iload_n (i := 3) dX5_as_30 rfl rfl ?_
                  refine x_iload_n (i := 2) dX5_as_31 rfl rfl ?_
                  refine x_iceqN (tgt := 62) (by omega) (by omega) dX5_as_32 rfl (fun h32_1 => ?_) (fun h32_1 => ?_)
                  · exact absurd h32_1 (by decide)
                  · skip
                    refine x_iload_n (i := 3) dX5_as_35 rfl rfl ?_
                    refine x_ifeq (tgt := 62) dX5_as_36 rfl (fun h36_1 => ?_) (fun h36_1 => ?_)
                    · exact absurd h36_1 (by decide)
                    · skip
                      refine x_iload_n (i := 3) dX5_as_39 rfl rfl ?_
                      refine x_iconstN (n := 4) dX5_as_40 ?_
                      refine x_icneN (tgt := 48) (by omega) (by omega) dX5_as_41 rfl (fun h41_1 => ?_) (fun h41_1 => ?_)
                      · skip
                        refine x_iload_n (i := 3) dX5_as_48 rfl rfl ?_
                        refine x_iconstN (n := 5) dX5_as_49 ?_
                        refine x_icneN (tgt := 57) (by omega) (by omega) dX5_as_50 rfl (fun h50_1 => ?_) (fun h50_1 => ?_)
                        · skip
                          refine x_iconstN (n := 0) dX5_as_57 ?_
                          refine y_istore_n (i := 3) (ls2 := [_, _, _, _]) dX5_as_58 rfl (by decide) rfl rfl ?_
                          refine x_goto (tgt := 30) dX5_as_59 rfl ?_
                          refine x_iload_n (i := 3) dX5_as_30 rfl rfl ?_
                          refine x_iload_n (i := 2) dX5_as_31 rfl rfl ?_
                          refine x_iceqN (tgt := 62) (by omega) (by omega) dX5_as_32 rfl (fun h32_2 => ?_) (fun h32_2 => ?_)
                          · exact absurd h32_2 (by decide)
                          · skip
                            refine x_iload_n (i := 3) dX5_as_35 rfl rfl ?_
                            refine x_ifeq (tgt := 62) dX5_as_36 rfl (fun h36_2 => ?_) (fun h36_2 => ?_)
                            · skip
                              refine x_iload_n (i := 3) dX5_as_62 rfl rfl ?_
                              refine x_iload_n (i := 2) dX5_as_63 rfl rfl ?_
                              refine x_icneN (tgt := 76) (by omega) (by omega) dX5_as_64 rfl (fun h64 => ?_) (fun h64 => ?_)
                              · skip
                                refine x_aload_n (i := 0) dX5_as_76 rfl rfl ?_
                                refine x_iconstN (n := 2) dX5_as_77 ?_
                                refine x_v1i dX5_as_78 okX5_no ml_X5_118 rfl rfl (Nat.le_of_ble_eq_true rfl) ⟨by decide, by decide⟩ (Nat.le_of_ble_eq_true rfl) (c_X5_no hS 2 (by decide) (fun τ hτ => ?_))
                                exact x_ireti dX5_as_81 rfl (by first | exact hk σ hS | exact hk τ hτ)
                              · exact absurd h64 (by decide)
                            · exact absurd h36_2 (by decide)
                        · exact absurd h50_1 (by decide)
                      · exact absurd h41_1 (by decide)
              · exact absurd h41 (by decide)
        · exact absurd hc2 h14
    | 5, _, 3, _ =>
      rw [if_pos (by decide)] at hk
      refine x_aload_n (i := 0) dX5_as_0 rfl rfl ?_
      refine x_iload_n (i := 1) dX5_as_1 rfl rfl ?_
      refine x_v1i dX5_as_2 okX5_isDriver ml_X5_140 rfl rfl (Nat.le_of_ble_eq_true rfl) ⟨by decide, by decide⟩ (Nat.le_of_ble_eq_true rfl) (c_X5_isDriver hs _ ?_)
      refine x_ifeqP (tgt := 17) dX5_as_5 rfl (fun h5 => ?_) (fun h5 => ?_)
      · exact absurd hc.1 h5
      · skip
        refine x_iload_n (i := 2) dX5_as_8 rfl rfl ?_
        refine x_iconstN (n := 0) dX5_as_9 ?_
        refine x_iconstN (n := 5) dX5_as_10 ?_
        refine x_s3i dX5_as_11 okX5_in1 ml_X5_52 (Nat.le_of_ble_eq_true rfl) ⟨by decide, by decide⟩ (Nat.le_of_ble_eq_true rfl) (c_inN (n := 5) (by decide) _ ?_)
        refine x_ifneP (tgt := 23) dX5_as_14 rfl (fun h14 => ?_) (fun h14 => ?_)
        · skip
          refine x_aload_n (i := 0) dX5_as_23 rfl rfl ?_
          refine x_iload_n (i := 1) dX5_as_24 rfl rfl ?_
          refine x_iconstN (n := 0) dX5_as_25 ?_
          refine x_v2i dX5_as_26 okX5_get ml_X5_92 rfl rfl (Nat.le_of_ble_eq_true rfl) ⟨by decide, by decide⟩ (Nat.le_of_ble_eq_true rfl) (c_get0 hs hd ?_)
          refine x_top ex ?_
          refine y_istore_n (i := 3) (ls2 := [_, _, _, _]) dX5_as_29 rfl (by decide) rfl rfl ?_
          refine x_iload_n (i := 3) dX5_as_30 rfl rfl ?_
          refine x_iload_n (i := 2) dX5_as_31 rfl rfl ?_
          refine x_iceqN (tgt := 62) (by omega) (by omega) dX5_as_32 rfl (fun h32 => ?_) (fun h32 => ?_)
          · exact absurd h32 (by decide)
          · skip
            refine x_iload_n (i := 3) dX5_as_35 rfl rfl ?_
            refine x_ifeq (tgt := 62) dX5_as_36 rfl (fun h36 => ?_) (fun h36 => ?_)
            · exact absurd h36 (by decide)
            · skip
              refine x_iload_n (i := 3) dX5_as_39 rfl rfl ?_
              refine x_iconstN (n := 4) dX5_as_40 ?_
              refine x_icneN (tgt := 48) (by omega) (by omega) dX5_as_41 rfl (fun h41 => ?_) (fun h41 => ?_)
              · skip
                refine x_iload_n (i := 3) dX5_as_48 rfl rfl ?_
                refine x_iconstN (n := 5) dX5_as_49 ?_
                refine x_icneN (tgt := 57) (by omega) (by omega) dX5_as_50 rfl (fun h50 => ?_) (fun h50 => ?_)
                · exact absurd h50 (by decide)
                · skip
                  refine x_iconstN (n := 3) dX5_as_53 ?_
                  refine x_goto (tgt := 58) dX5_as_54 rfl ?_
                  refine y_istore_n (i := 3) (ls2 := [_, _, _, _]) dX5_as_58 rfl (by decide) rfl rfl ?_
                  refine x_goto (tgt := 30) dX5_as_59 rfl ?_
                  refine x_iload_n (i := 3) dX5_as_30 rfl rfl ?_
                  refine x_iload_n (i := 2) dX5_as_31 rfl rfl ?_
                  refine x_iceqN (tgt := 62) (by omega) (by omega) dX5_as_32 rfl (fun h32_1 => ?_) (fun h32_1 => ?_)
                  · skip
                    refine x_iload_n (i := 3) dX5_as_62 rfl rfl ?_
                    refine x_iload_n (i := 2) dX5_as_63 rfl rfl ?_
                    refine x_icneN (tgt := 76) (by omega) (by omega) dX5_as_64 rfl (fun h64 => ?_) (fun h64 => ?_)
                    · exact absurd h64 (by decide)
                    · skip
                      refine x_aload_n (i := 0) dX5_as_67 rfl rfl ?_
                      refine x_iload_n (i := 1) dX5_as_68 rfl rfl ?_
                      refine x_iconstN (n := 1) dX5_as_69 ?_
                      refine x_v2i dX5_as_70 okX5_get ml_X5_92 rfl rfl (Nat.le_of_ble_eq_true rfl) ⟨by decide, by decide⟩ (Nat.le_of_ble_eq_true rfl) (c_get1 hs hd ?_)
                      refine x_goto (tgt := 81) dX5_as_73 rfl ?_
                      exact x_ireti dX5_as_81 rfl (by first | exact hk σ hS | exact hk τ hτ)
                  · exact absurd h32_1 (by decide)
              · exact absurd h41 (by decide)
        · exact absurd hc2 h14
    | 5, _, 4, _ =>
      rw [if_neg (by decide)] at hk
      refine x_aload_n (i := 0) dX5_as_0 rfl rfl ?_
      refine x_iload_n (i := 1) dX5_as_1 rfl rfl ?_
      refine x_v1i dX5_as_2 okX5_isDriver ml_X5_140 rfl rfl (Nat.le_of_ble_eq_true rfl) ⟨by decide, by decide⟩ (Nat.le_of_ble_eq_true rfl) (c_X5_isDriver hs _ ?_)
      refine x_ifeqP (tgt := 17) dX5_as_5 rfl (fun h5 => ?_) (fun h5 => ?_)
      · exact absurd hc.1 h5
      · skip
        refine x_iload_n (i := 2) dX5_as_8 rfl rfl ?_
        refine x_iconstN (n := 0) dX5_as_9 ?_
        refine x_iconstN (n := 5) dX5_as_10 ?_
        refine x_s3i dX5_as_11 okX5_in1 ml_X5_52 (Nat.le_of_ble_eq_true rfl) ⟨by decide, by decide⟩ (Nat.le_of_ble_eq_true rfl) (c_inN (n := 5) (by decide) _ ?_)
        refine x_ifneP (tgt := 23) dX5_as_14 rfl (fun h14 => ?_) (fun h14 => ?_)
        · skip
          refine x_aload_n (i := 0) dX5_as_23 rfl rfl ?_
          refine x_iload_n (i := 1) dX5_as_24 rfl rfl ?_
          refine x_iconstN (n := 0) dX5_as_25 ?_
          refine x_v2i dX5_as_26 okX5_get ml_X5_92 rfl rfl (Nat.le_of_ble_eq_true rfl) ⟨by decide, by decide⟩ (Nat.le_of_ble_eq_true rfl) (c_get0 hs hd ?_)
          refine x_top ex ?_
          refine y_istore_n (i := 3) (ls2 := [_, _, _, _]) dX5_as_29 rfl (by decide) rfl rfl ?_
          refine x_iload_n (i := 3) dX5_as_30 rfl rfl ?_
          refine x_iload_n (i := 2) dX5_as_31 rfl rfl ?_
          refine x_iceqN (tgt := 62) (by omega) (by omega) dX5_as_32 rfl (fun h32 => ?_) (fun h32 => ?_)
          · exact absurd h32 (by decide)
          · skip
            refine x_iload_n (i := 3) dX5_as_35 rfl rfl ?_
            refine x_ifeq (tgt := 62) dX5_as_36 rfl (fun h36 => ?_) (fun h36 => ?_)
            · exact absurd h36 (by decide)
            · skip
              refine x_iload_n (i := 3) dX5_as_39 rfl rfl ?_
              refine x_iconstN (n := 4) dX5_as_40 ?_
              refine x_icneN (tgt := 48) (by omega) (by omega) dX5_as_41 rfl (fun h41 => ?_) (fun h41 => ?_)
              · skip
                refine x_iload_n (i := 3) dX5_as_48 rfl rfl ?_
                refine x_iconstN (n := 5) dX5_as_49 ?_
                refine x_icneN (tgt := 57) (by omega) (by omega) dX5_as_50 rfl (fun h50 => ?_) (fun h50 => ?_)
                · exact absurd h50 (by decide)
                · skip
                  refine x_iconstN (n := 3) dX5_as_53 ?_
                  refine x_goto (tgt := 58) dX5_as_54 rfl ?_
                  refine y_istore_n (i := 3) (ls2 := [_, _, _, _]) dX5_as_58 rfl (by decide) rfl rfl ?_
                  refine x_goto (tgt := 30) dX5_as_59 rfl ?_
                  refine x_iload_n (i := 3) dX5_as_30 rfl rfl ?_
                  refine x_iload_n (i := 2) dX5_as_31 rfl rfl ?_
                  refine x_iceqN (tgt := 62) (by omega) (by omega) dX5_as_32 rfl (fun h32_1 => ?_) (fun h32_1 => ?_)
                  · exact absurd h32_1 (by decide)
                  · skip
                    refine x_iload_n (i := 3) dX5_as_35 rfl rfl ?_
                    refine x_ifeq (tgt := 62) dX5_as_36 rfl (fun h36_1 => ?_) (fun h36_1 => ?_)
                    · exact absurd h36_1 (by decide)
                    · skip
                      refine x_iload_n (i := 3) dX5_as_39 rfl rfl ?_
                      refine x_iconstN (n := 4) dX5_as_40 ?_
                      refine x_icneN (tgt := 48) (by omega) (by omega) dX5_as_41 rfl (fun h41_1 => ?_) (fun h41_1 => ?_)
                      · skip
                        refine x_iload_n (i := 3) dX5_as_48 rfl rfl ?_
                        refine x_iconstN (n := 5) dX5_as_49 ?_
                        refine x_icneN (tgt := 57) (by omega) (by omega) dX5_as_50 rfl (fun h50_1 => ?_) (fun h50_1 => ?_)
                        · skip
                          refine x_iconstN (n := 0) dX5_as_57 ?_
                          refine y_istore_n (i := 3) (ls2 := [_, _, _, _]) dX5_as_58 rfl (by decide) rfl rfl ?_
                          refine x_goto (tgt := 30) dX5_as_59 rfl ?_
                          refine x_iload_n (i := 3) dX5_as_30 rfl rfl ?_
                          refine x_iload_n (i := 2) dX5_as_31 rfl rfl ?_
                          refine x_iceqN (tgt := 62) (by omega) (by omega) dX5_as_32 rfl (fun h32_2 => ?_) (fun h32_2 => ?_)
                          · exact absurd h32_2 (by decide)
                          · skip
                            refine x_iload_n (i := 3) dX5_as_35 rfl rfl ?_
                            refine x_ifeq (tgt := 62) dX5_as_36 rfl (fun h36_2 => ?_) (fun h36_2 => ?_)
                            · skip
                              refine x_iload_n (i := 3) dX5_as_62 rfl rfl ?_
                              refine x_iload_n (i := 2) dX5_as_63 rfl rfl ?_
                              refine x_icneN (tgt := 76) (by omega) (by omega) dX5_as_64 rfl (fun h64 => ?_) (fun h64 => ?_)
                              · skip
                                refine x_aload_n (i := 0) dX5_as_76 rfl rfl ?_
                                refine x_iconstN (n := 2) dX5_as_77 ?_
                                refine x_v1i dX5_as_78 okX5_no ml_X5_118 rfl rfl (Nat.le_of_ble_eq_true rfl) ⟨by decide, by decide⟩ (Nat.le_of_ble_eq_true rfl) (c_X5_no hS 2 (by decide) (fun τ hτ => ?_))
                                exact x_ireti dX5_as_81 rfl (by first | exact hk σ hS | exact hk τ hτ)
                              · exact absurd h64 (by decide)
                            · exact absurd h36_2 (by decide)
                        · exact absurd h50_1 (by decide)
                      · exact absurd h41_1 (by decide)
              · exact absurd h41 (by decide)
        · exact absurd hc2 h14
    | 5, _, 5, _ =>
      rw [if_pos (by decide)] at hk
      refine x_aload_n (i := 0) dX5_as_0 rfl rfl ?_
      refine x_iload_n (i := 1) dX5_as_1 rfl rfl ?_
      refine x_v1i dX5_as_2 okX5_isDriver ml_X5_140 rfl rfl (Nat.le_of_ble_eq_true rfl) ⟨by decide, by decide⟩ (Nat.le_of_ble_eq_true rfl) (c_X5_isDriver hs _ ?_)
      refine x_ifeqP (tgt := 17) dX5_as_5 rfl (fun h5 => ?_) (fun h5 => ?_)
      · exact absurd hc.1 h5
      · skip
        refine x_iload_n (i := 2) dX5_as_8 rfl rfl ?_
        refine x_iconstN (n := 0) dX5_as_9 ?_
        refine x_iconstN (n := 5) dX5_as_10 ?_
        refine x_s3i dX5_as_11 okX5_in1 ml_X5_52 (Nat.le_of_ble_eq_true rfl) ⟨by decide, by decide⟩ (Nat.le_of_ble_eq_true rfl) (c_inN (n := 5) (by decide) _ ?_)
        refine x_ifneP (tgt := 23) dX5_as_14 rfl (fun h14 => ?_) (fun h14 => ?_)
        · skip
          refine x_aload_n (i := 0) dX5_as_23 rfl rfl ?_
          refine x_iload_n (i := 1) dX5_as_24 rfl rfl ?_
          refine x_iconstN (n := 0) dX5_as_25 ?_
          refine x_v2i dX5_as_26 okX5_get ml_X5_92 rfl rfl (Nat.le_of_ble_eq_true rfl) ⟨by decide, by decide⟩ (Nat.le_of_ble_eq_true rfl) (c_get0 hs hd ?_)
          refine x_top ex ?_
          refine y_istore_n (i := 3) (ls2 := [_, _, _, _]) dX5_as_29 rfl (by decide) rfl rfl ?_
          refine x_iload_n (i := 3) dX5_as_30 rfl rfl ?_
          refine x_iload_n (i := 2) dX5_as_31 rfl rfl ?_
          refine x_iceqN (tgt := 62) (by omega) (by omega) dX5_as_32 rfl (fun h32 => ?_) (fun h32 => ?_)
          · skip
            refine x_iload_n (i := 3) dX5_as_62 rfl rfl ?_
            refine x_iload_n (i := 2) dX5_as_63 rfl rfl ?_
            refine x_icneN (tgt := 76) (by omega) (by omega) dX5_as_64 rfl (fun h64 => ?_) (fun h64 => ?_)
            · exact absurd h64 (by decide)
            · skip
              refine x_aload_n (i := 0) dX5_as_67 rfl rfl ?_
              refine x_iload_n (i := 1) dX5_as_68 rfl rfl ?_
              refine x_iconstN (n := 1) dX5_as_69 ?_
              refine x_v2i dX5_as_70 okX5_get ml_X5_92 rfl rfl (Nat.le_of_ble_eq_true rfl) ⟨by decide, by decide⟩ (Nat.le_of_ble_eq_true rfl) (c_get1 hs hd ?_)
              refine x_goto (tgt := 81) dX5_as_73 rfl ?_
              exact x_ireti dX5_as_81 rfl (by first | exact hk σ hS | exact hk τ hτ)
          · exact absurd h32 (by decide)
        · exact absurd hc2 h14
  · unfold oAs at hk
    rw [if_neg hc] at hk
    refine x_aload_n (i := 0) dX5_as_0 rfl rfl ?_
    refine x_iload_n (i := 1) dX5_as_1 rfl rfl ?_
    refine x_v1i dX5_as_2 okX5_isDriver ml_X5_140 rfl rfl (Nat.le_of_ble_eq_true rfl) ⟨by decide, by decide⟩ (Nat.le_of_ble_eq_true rfl) (c_X5_isDriver hs _ ?_)
    refine x_ifeqP (tgt := 17) dX5_as_5 rfl (fun h5 => ?_) (fun h5 => ?_)
    · skip
      refine x_aload_n (i := 0) dX5_as_17 rfl rfl ?_
      refine x_iconstN (n := 0) dX5_as_18 ?_
      refine x_v1i dX5_as_19 okX5_no ml_X5_118 rfl rfl (Nat.le_of_ble_eq_true rfl) ⟨by decide, by decide⟩ (Nat.le_of_ble_eq_true rfl) (c_X5_no hS 0 (by decide) (fun τ hτ => ?_))
      exact x_ireti dX5_as_22 rfl (hk τ hτ)
    · skip
      refine x_iload_n (i := 2) dX5_as_8 rfl rfl ?_
      refine x_iconstN (n := 0) dX5_as_9 ?_
      refine x_iconstN (n := 5) dX5_as_10 ?_
      refine x_s3i dX5_as_11 okX5_in1 ml_X5_52 (Nat.le_of_ble_eq_true rfl) ⟨by decide, by decide⟩ (Nat.le_of_ble_eq_true rfl) (c_inN (n := 5) (by decide) _ ?_)
      refine x_ifneP (tgt := 23) dX5_as_14 rfl (fun h14 => ?_) (fun h14 => ?_)
      · exact absurd ⟨h5, h14⟩ hc
      · skip
        refine x_aload_n (i := 0) dX5_as_17 rfl rfl ?_
        refine x_iconstN (n := 0) dX5_as_18 ?_
        refine x_v1i dX5_as_19 okX5_no ml_X5_118 rfl rfl (Nat.le_of_ble_eq_true rfl) ⟨by decide, by decide⟩ (Nat.le_of_ble_eq_true rfl) (c_X5_no hS 0 (by decide) (fun τ hτ => ?_))
        exact x_ireti dX5_as_22 rfl (hk τ hτ)
set_option maxHeartbeats 4000000 in
set_option maxRecDepth 20000 in
theorem c_X5_slows {σ : xH} {K : Int32 → xH → Prop} {S : St} (hS : mS σ S) (hO : tOk (gT S)) (d t g : Int32) (hk : ∀ τ, mS τ (oSlows S d t g).2 → K (oSlows S d t g).1 τ) : Evi l (oM ad D cy) mX5_slows [.ref 0, .int d, .int t, .int g] σ K := by
  have hs := hS.1
  have h8 := ms_8 hs
  refine x_enter (ls := [some (.ref 0), some (.int d), some (.int t), some (.int g), none]) rfl ?_
  by_cases hc : vN (tN (gT S)) d ∧ vR (nI 1) (nI 4) t ∧ vR (nI 0) (nI 999) g
  · unfold oSlows at hk
    rw [if_pos hc] at hk
    have hcc := hc
    obtain ⟨d, hd, rfl⟩ := vN_of hc.1 (by omega)
    have hg := ms_g3 hs hd
    have h8d : d < 2 ^ 31 := by omega
    simp only [cn, nI_clamp h8d] at hk
    refine x_aload_n (i := 0) dX5_slows_0 rfl rfl ?_
    refine x_iload_n (i := 1) dX5_slows_1 rfl rfl ?_
    refine x_v1i dX5_slows_2 okX5_isDriver ml_X5_140 rfl rfl (Nat.le_of_ble_eq_true rfl) ⟨by decide, by decide⟩ (Nat.le_of_ble_eq_true rfl) (c_X5_isDriver hs _ ?_)
    refine x_ifeqP (tgt := 32) dX5_slows_5 rfl (fun h5 => ?_) (fun h5 => ?_)
    · exact absurd hc.1 h5
    · skip
      refine x_iload_n (i := 2) dX5_slows_8 rfl rfl ?_
      refine x_iconstN (n := 1) dX5_slows_9 ?_
      refine x_iconstN (n := 4) dX5_slows_10 ?_
      refine x_s3i dX5_slows_11 okX5_in1 ml_X5_52 (Nat.le_of_ble_eq_true rfl) ⟨by decide, by decide⟩ (Nat.le_of_ble_eq_true rfl) (c_X5_in1 _ _ _ ?_)
      refine x_ifeqP (tgt := 32) dX5_slows_14 rfl (fun h14 => ?_) (fun h14 => ?_)
      · exact absurd hc.2.1 h14
      · skip
        refine x_iload_n (i := 3) dX5_slows_17 rfl rfl ?_
        refine x_iconstN (n := 0) dX5_slows_18 ?_
        refine x_sipush (v := nI 999) dX5_slows_19 (by decide) ?_
        refine x_s3i dX5_slows_22 okX5_in1 ml_X5_52 (Nat.le_of_ble_eq_true rfl) ⟨by decide, by decide⟩ (Nat.le_of_ble_eq_true rfl) (c_X5_in1 _ _ _ ?_)
        refine x_ifeqP (tgt := 32) dX5_slows_25 rfl (fun h25 => ?_) (fun h25 => ?_)
        · exact absurd hc.2.2 h25
        · skip
          refine x_iconstN (n := 1) dX5_slows_28 ?_
          refine x_goto (tgt := 33) dX5_slows_29 rfl ?_
          refine y_istore (i := 4) (ls2 := [_, _, _, _, _]) dX5_slows_33 (by decide) rfl rfl ?_
          refine x_iload (i := 4) dX5_slows_35 rfl ?_
          refine x_ifeq (tgt := 66) dX5_slows_37 rfl (fun h37 => ?_) (fun h37 => ?_)
          · exact absurd h37 (by decide)
          · skip
            refine x_aload_n (i := 0) dX5_slows_40 rfl rfl ?_
            refine x_iload_n (i := 1) dX5_slows_41 rfl rfl ?_
            refine x_iconstN (n := 0) dX5_slows_42 ?_
            refine x_v2i dX5_slows_43 okX5_get ml_X5_92 rfl rfl (Nat.le_of_ble_eq_true rfl) ⟨by decide, by decide⟩ (Nat.le_of_ble_eq_true rfl) (c_get0 hs (by omega) ?_)
            refine x_iload_n (i := 2) dX5_slows_46 rfl rfl ?_
            refine x_aload_n (i := 0) dX5_slows_47 rfl rfl ?_
            refine x_iload_n (i := 1) dX5_slows_48 rfl rfl ?_
            refine x_iconstN (n := 1) dX5_slows_49 ?_
            refine x_v2i dX5_slows_50 okX5_get ml_X5_92 rfl rfl (Nat.le_of_ble_eq_true rfl) ⟨by decide, by decide⟩ (Nat.le_of_ble_eq_true rfl) (c_get1 hs (by omega) ?_)
            refine x_aload_n (i := 0) dX5_slows_53 rfl rfl ?_
            refine x_getr (i := 0) dX5_slows_54 rfl rfl rfl (by decide) fl_X5_9 inX5 ?_
            refine x_iconstN (n := 1) dX5_slows_57 ?_
            refine x_ialdE dX5_slows_58 rfl (by omega) (by decide) (ms_in hs) ?_
            refine x_iload_n (i := 3) dX5_slows_59 rfl rfl ?_
            refine x_s5i dX5_slows_60 okX5_slowsTo ml_X5_86 (Nat.le_of_ble_eq_true rfl) ⟨by decide, by decide⟩ (Nat.le_of_ble_eq_true rfl) (c_X5_slowsTo _ _ _ _ _ (tri14 hc.2.1) ?_)
            refine x_goto (tgt := 71) dX5_slows_63 rfl ?_
            exact x_ireti dX5_slows_71 rfl (hk σ hS)
  · unfold oSlows at hk
    rw [if_neg hc] at hk
    refine x_aload_n (i := 0) dX5_slows_0 rfl rfl ?_
    refine x_iload_n (i := 1) dX5_slows_1 rfl rfl ?_
    refine x_v1i dX5_slows_2 okX5_isDriver ml_X5_140 rfl rfl (Nat.le_of_ble_eq_true rfl) ⟨by decide, by decide⟩ (Nat.le_of_ble_eq_true rfl) (c_X5_isDriver hs _ ?_)
    refine x_ifeqP (tgt := 32) dX5_slows_5 rfl (fun h5 => ?_) (fun h5 => ?_)
    · skip
      refine x_iconstN (n := 0) dX5_slows_32 ?_
      refine y_istore (i := 4) (ls2 := [_, _, _, _, _]) dX5_slows_33 (by decide) rfl rfl ?_
      refine x_iload (i := 4) dX5_slows_35 rfl ?_
      refine x_ifeq (tgt := 66) dX5_slows_37 rfl (fun h37 => ?_) (fun h37 => ?_)
      · skip
        refine x_aload_n (i := 0) dX5_slows_66 rfl rfl ?_
        refine x_iconstN (n := 0) dX5_slows_67 ?_
        refine x_v1i dX5_slows_68 okX5_no ml_X5_118 rfl rfl (Nat.le_of_ble_eq_true rfl) ⟨by decide, by decide⟩ (Nat.le_of_ble_eq_true rfl) (c_X5_no hS 0 (by decide) (fun τ hτ => ?_))
        exact x_ireti dX5_slows_71 rfl (hk τ hτ)
      · exact absurd h37 (by decide)
    · skip
      refine x_iload_n (i := 2) dX5_slows_8 rfl rfl ?_
      refine x_iconstN (n := 1) dX5_slows_9 ?_
      refine x_iconstN (n := 4) dX5_slows_10 ?_
      refine x_s3i dX5_slows_11 okX5_in1 ml_X5_52 (Nat.le_of_ble_eq_true rfl) ⟨by decide, by decide⟩ (Nat.le_of_ble_eq_true rfl) (c_X5_in1 _ _ _ ?_)
      refine x_ifeqP (tgt := 32) dX5_slows_14 rfl (fun h14 => ?_) (fun h14 => ?_)
      · skip
        refine x_iconstN (n := 0) dX5_slows_32 ?_
        refine y_istore (i := 4) (ls2 := [_, _, _, _, _]) dX5_slows_33 (by decide) rfl rfl ?_
        refine x_iload (i := 4) dX5_slows_35 rfl ?_
        refine x_ifeq (tgt := 66) dX5_slows_37 rfl (fun h37 => ?_) (fun h37 => ?_)
        · skip
          refine x_aload_n (i := 0) dX5_slows_66 rfl rfl ?_
          refine x_iconstN (n := 0) dX5_slows_67 ?_
          refine x_v1i dX5_slows_68 okX5_no ml_X5_118 rfl rfl (Nat.le_of_ble_eq_true rfl) ⟨by decide, by decide⟩ (Nat.le_of_ble_eq_true rfl) (c_X5_no hS 0 (by decide) (fun τ hτ => ?_))
          exact x_ireti dX5_slows_71 rfl (hk τ hτ)
        · exact absurd h37 (by decide)
      · skip
        refine x_iload_n (i := 3) dX5_slows_17 rfl rfl ?_
        refine x_iconstN (n := 0) dX5_slows_18 ?_
        refine x_sipush (v := nI 999) dX5_slows_19 (by decide) ?_
        refine x_s3i dX5_slows_22 okX5_in1 ml_X5_52 (Nat.le_of_ble_eq_true rfl) ⟨by decide, by decide⟩ (Nat.le_of_ble_eq_true rfl) (c_X5_in1 _ _ _ ?_)
        refine x_ifeqP (tgt := 32) dX5_slows_25 rfl (fun h25 => ?_) (fun h25 => ?_)
        · skip
          refine x_iconstN (n := 0) dX5_slows_32 ?_
          refine y_istore (i := 4) (ls2 := [_, _, _, _, _]) dX5_slows_33 (by decide) rfl rfl ?_
          refine x_iload (i := 4) dX5_slows_35 rfl ?_
          refine x_ifeq (tgt := 66) dX5_slows_37 rfl (fun h37 => ?_) (fun h37 => ?_)
          · skip
            refine x_aload_n (i := 0) dX5_slows_66 rfl rfl ?_
            refine x_iconstN (n := 0) dX5_slows_67 ?_
            refine x_v1i dX5_slows_68 okX5_no ml_X5_118 rfl rfl (Nat.le_of_ble_eq_true rfl) ⟨by decide, by decide⟩ (Nat.le_of_ble_eq_true rfl) (c_X5_no hS 0 (by decide) (fun τ hτ => ?_))
            exact x_ireti dX5_slows_71 rfl (hk τ hτ)
          · exact absurd h37 (by decide)
        · exact absurd ⟨h5, h14, h25⟩ hc
set_option maxHeartbeats 4000000 in
set_option maxRecDepth 20000 in
theorem c_X5_quick {σ : xH} {K : Int32 → xH → Prop} {S : St} (hS : mS σ S) (hO : tOk (gT S)) (d a b : Int32) (hk : ∀ τ, mS τ (oQuick S d a b).2 → K (oQuick S d a b).1 τ) : Evi l (oM ad D cy) mX5_quick [.ref 0, .int d, .int a, .int b] σ K := by
  have hs := hS.1
  have h8 := ms_8 hs
  refine x_enter (ls := [some (.ref 0), some (.int d), some (.int a), some (.int b)]) rfl ?_
  by_cases hc : vN (tN (gT S)) d ∧ vN 3 a ∧ vN 20 b
  · unfold oQuick at hk
    rw [if_pos hc] at hk
    obtain ⟨d, hd, rfl⟩ := vN_of hc.1 (by omega)
    have hg := ms_g3 hs hd
    have h8d : d < 2 ^ 31 := by omega
    simp only [cn, nI_clamp h8d] at hk
    obtain ⟨r, hr, rfl⟩ := vN_of hc.2.1 (by decide)
    simp only [nI_clamp (show r < 2 ^ 31 by omega)] at hk
    obtain ⟨i, hi, rfl⟩ := vN_of hc.2.2 (by decide)
    simp only [nI_clamp (show i < 2 ^ 31 by omega)] at hk
    obtain ⟨k, hk6, ek⟩ := hO.2.1 d hd
    obtain ⟨w, h10, h80, ew⟩ := hO.2.2.1 d hd
    rw [ek, ew] at hk
    refine x_aload_n (i := 0) dX5_quick_0 rfl rfl ?_
    refine x_iload_n (i := 1) dX5_quick_1 rfl rfl ?_
    refine x_iload_n (i := 2) dX5_quick_2 rfl rfl ?_
    refine x_v2i dX5_quick_3 okX5_areBoth ml_X5_146 rfl rfl (Nat.le_of_ble_eq_true rfl) ⟨by decide, by decide⟩ (Nat.le_of_ble_eq_true rfl) (c_X5_areBoth hs _ _ ?_)
    refine x_ifeqP (tgt := 16) dX5_quick_6 rfl (fun h6 => ?_) (fun h6 => ?_)
    · exact absurd ⟨hc.1, hc.2.1⟩ h6
    · skip
      refine x_iload_n (i := 3) dX5_quick_9 rfl rfl ?_
      refine x_s1i dX5_quick_10 okX5_isStretch ml_X5_115 (Nat.le_of_ble_eq_true rfl) ⟨by decide, by decide⟩ (Nat.le_of_ble_eq_true rfl) (c_X5_isStretch _ ?_)
      refine x_ifneP (tgt := 22) dX5_quick_13 rfl (fun h13 => ?_) (fun h13 => ?_)
      · skip
        refine x_aload_n (i := 0) dX5_quick_22 rfl rfl ?_
        refine x_aload_n (i := 0) dX5_quick_23 rfl rfl ?_
        refine x_iload_n (i := 1) dX5_quick_24 rfl rfl ?_
        refine x_iconstN (n := 0) dX5_quick_25 ?_
        refine x_v2i dX5_quick_26 okX5_get ml_X5_92 rfl rfl (Nat.le_of_ble_eq_true rfl) ⟨by decide, by decide⟩ (Nat.le_of_ble_eq_true rfl) (c_get0 hs (by omega) ?_)
        refine x_top ek ?_
        refine x_aload_n (i := 0) dX5_quick_29 rfl rfl ?_
        refine x_iload_n (i := 1) dX5_quick_30 rfl rfl ?_
        refine x_iconstN (n := 1) dX5_quick_31 ?_
        refine x_v2i dX5_quick_32 okX5_get ml_X5_92 rfl rfl (Nat.le_of_ble_eq_true rfl) ⟨by decide, by decide⟩ (Nat.le_of_ble_eq_true rfl) (c_get1 hs (by omega) ?_)
        refine x_top ew ?_
        refine x_iload_n (i := 2) dX5_quick_35 rfl rfl ?_
        refine x_v3v dX5_quick_36 okX5_goesThrough ml_X5_95 rfl rfl (Nat.le_of_ble_eq_true rfl) ⟨by decide, by decide⟩ (Nat.le_of_ble_eq_true rfl) (c_X5_goesThrough hO hk6 h10 h80 hr hs (fun τ hq hf => ?_))
        refine x_aload_n (i := 0) dX5_quick_39 rfl rfl ?_
        refine x_getr (i := 5) dX5_quick_40 rfl rfl rfl (by decide) fl_X5_22 inX5 ?_
        refine x_iload_n (i := 3) dX5_quick_43 rfl rfl ?_
        refine x_ialdE dX5_quick_44 rfl (by omega) (by decide) (hq.1 i hi) ?_
        exact x_ireti dX5_quick_45 rfl (hk τ (mS_q hS hf))
      · exact absurd hc.2.2 h13
  · unfold oQuick at hk
    rw [if_neg hc] at hk
    refine x_aload_n (i := 0) dX5_quick_0 rfl rfl ?_
    refine x_iload_n (i := 1) dX5_quick_1 rfl rfl ?_
    refine x_iload_n (i := 2) dX5_quick_2 rfl rfl ?_
    refine x_v2i dX5_quick_3 okX5_areBoth ml_X5_146 rfl rfl (Nat.le_of_ble_eq_true rfl) ⟨by decide, by decide⟩ (Nat.le_of_ble_eq_true rfl) (c_X5_areBoth hs _ _ ?_)
    refine x_ifeqP (tgt := 16) dX5_quick_6 rfl (fun h6 => ?_) (fun h6 => ?_)
    · skip
      refine x_aload_n (i := 0) dX5_quick_16 rfl rfl ?_
      refine x_iconstN (n := 0) dX5_quick_17 ?_
      refine x_v1i dX5_quick_18 okX5_no ml_X5_118 rfl rfl (Nat.le_of_ble_eq_true rfl) ⟨by decide, by decide⟩ (Nat.le_of_ble_eq_true rfl) (c_X5_no hS 0 (by decide) (fun τ hτ => ?_))
      exact x_ireti dX5_quick_21 rfl (hk τ hτ)
    · skip
      refine x_iload_n (i := 3) dX5_quick_9 rfl rfl ?_
      refine x_s1i dX5_quick_10 okX5_isStretch ml_X5_115 (Nat.le_of_ble_eq_true rfl) ⟨by decide, by decide⟩ (Nat.le_of_ble_eq_true rfl) (c_X5_isStretch _ ?_)
      refine x_ifneP (tgt := 22) dX5_quick_13 rfl (fun h13 => ?_) (fun h13 => ?_)
      · exact absurd ⟨h6.1, h6.2, h13⟩ hc
      · skip
        refine x_aload_n (i := 0) dX5_quick_16 rfl rfl ?_
        refine x_iconstN (n := 0) dX5_quick_17 ?_
        refine x_v1i dX5_quick_18 okX5_no ml_X5_118 rfl rfl (Nat.le_of_ble_eq_true rfl) ⟨by decide, by decide⟩ (Nat.le_of_ble_eq_true rfl) (c_X5_no hS 0 (by decide) (fun τ hτ => ?_))
        exact x_ireti dX5_quick_21 rfl (hk τ hτ)
set_option maxHeartbeats 4000000 in
set_option maxRecDepth 20000 in
theorem c_X5_takes {σ : xH} {K : Int32 → xH → Prop} {S : St} (hS : mS σ S) (hO : tOk (gT S)) (d a : Int32) (hk : ∀ τ, mS τ (oTakes S d a).2 → K (oTakes S d a).1 τ) : Evi l (oM ad D cy) mX5_takes [.ref 0, .int d, .int a] σ K := by
  have hs := hS.1
  have h8 := ms_8 hs
  refine x_enter (ls := [some (.ref 0), some (.int d), some (.int a)]) rfl ?_
  by_cases hc : vN (tN (gT S)) d ∧ vN 3 a
  · unfold oTakes at hk
    rw [if_pos hc] at hk
    obtain ⟨d, hd, rfl⟩ := vN_of hc.1 (by omega)
    have hg := ms_g3 hs hd
    have h8d : d < 2 ^ 31 := by omega
    simp only [cn, nI_clamp h8d] at hk
    obtain ⟨r, hr, rfl⟩ := vN_of hc.2 (by decide)
    simp only [nI_clamp (show r < 2 ^ 31 by omega)] at hk
    refine x_aload_n (i := 0) dX5_takes_0 rfl rfl ?_
    refine x_iload_n (i := 1) dX5_takes_1 rfl rfl ?_
    refine x_iload_n (i := 2) dX5_takes_2 rfl rfl ?_
    refine x_v2i dX5_takes_3 okX5_areBoth ml_X5_146 rfl rfl (Nat.le_of_ble_eq_true rfl) ⟨by decide, by decide⟩ (Nat.le_of_ble_eq_true rfl) (c_X5_areBoth hs _ _ ?_)
    refine x_ifeqP (tgt := 18) dX5_takes_6 rfl (fun h6 => ?_) (fun h6 => ?_)
    · exact absurd hc h6
    · skip
      refine x_aload_n (i := 0) dX5_takes_9 rfl rfl ?_
      refine x_iload_n (i := 1) dX5_takes_10 rfl rfl ?_
      refine x_iload_n (i := 2) dX5_takes_11 rfl rfl ?_
      refine x_v2i dX5_takes_12 okX5_tookBy ml_X5_102 rfl rfl (Nat.le_of_ble_eq_true rfl) ⟨by decide, by decide⟩ (Nat.le_of_ble_eq_true rfl) (c_X5_tookBy hO hs (by omega) (by omega) (fun τ hf1 => ?_))
      refine x_goto (tgt := 23) dX5_takes_15 rfl ?_
      exact x_ireti dX5_takes_23 rfl (hk τ (mS_q hS hf1))
  · unfold oTakes at hk
    rw [if_neg hc] at hk
    refine x_aload_n (i := 0) dX5_takes_0 rfl rfl ?_
    refine x_iload_n (i := 1) dX5_takes_1 rfl rfl ?_
    refine x_iload_n (i := 2) dX5_takes_2 rfl rfl ?_
    refine x_v2i dX5_takes_3 okX5_areBoth ml_X5_146 rfl rfl (Nat.le_of_ble_eq_true rfl) ⟨by decide, by decide⟩ (Nat.le_of_ble_eq_true rfl) (c_X5_areBoth hs _ _ ?_)
    refine x_ifeqP (tgt := 18) dX5_takes_6 rfl (fun h6 => ?_) (fun h6 => ?_)
    · skip
      refine x_aload_n (i := 0) dX5_takes_18 rfl rfl ?_
      refine x_iconstN (n := 0) dX5_takes_19 ?_
      refine x_v1i dX5_takes_20 okX5_no ml_X5_118 rfl rfl (Nat.le_of_ble_eq_true rfl) ⟨by decide, by decide⟩ (Nat.le_of_ble_eq_true rfl) (c_X5_no hS 0 (by decide) (fun τ hτ => ?_))
      exact x_ireti dX5_takes_23 rfl (hk τ hτ)
    · exact absurd h6 hc
set_option maxHeartbeats 4000000 in
set_option maxRecDepth 20000 in
theorem c_X5_shaken {σ : xH} {K : Int32 → xH → Prop} {S : St} (hS : mS σ S) (hO : tOk (gT S)) (d a : Int32) (hk : ∀ τ, mS τ (oShaken S d a).2 → K (oShaken S d a).1 τ) : Evi l (oM ad D cy) mX5_shaken [.ref 0, .int d, .int a] σ K := by
  have hs := hS.1
  have h8 := ms_8 hs
  refine x_enter (ls := [some (.ref 0), some (.int d), some (.int a)]) rfl ?_
  by_cases hc : vN (tN (gT S)) d ∧ vN 3 a
  · unfold oShaken at hk
    rw [if_pos hc] at hk
    obtain ⟨d, hd, rfl⟩ := vN_of hc.1 (by omega)
    have hg := ms_g3 hs hd
    have h8d : d < 2 ^ 31 := by omega
    simp only [cn, nI_clamp h8d] at hk
    obtain ⟨r, hr, rfl⟩ := vN_of hc.2 (by decide)
    simp only [nI_clamp (show r < 2 ^ 31 by omega)] at hk
    refine x_aload_n (i := 0) dX5_shaken_0 rfl rfl ?_
    refine x_iload_n (i := 1) dX5_shaken_1 rfl rfl ?_
    refine x_iload_n (i := 2) dX5_shaken_2 rfl rfl ?_
    refine x_v2i dX5_shaken_3 okX5_areBoth ml_X5_146 rfl rfl (Nat.le_of_ble_eq_true rfl) ⟨by decide, by decide⟩ (Nat.le_of_ble_eq_true rfl) (c_X5_areBoth hs _ _ ?_)
    refine x_ifeqP (tgt := 18) dX5_shaken_6 rfl (fun h6 => ?_) (fun h6 => ?_)
    · exact absurd hc h6
    · skip
      refine x_aload_n (i := 0) dX5_shaken_9 rfl rfl ?_
      refine x_iload_n (i := 1) dX5_shaken_10 rfl rfl ?_
      refine x_iload_n (i := 2) dX5_shaken_11 rfl rfl ?_
      refine x_v2i dX5_shaken_12 okX5_shookBy ml_X5_99 rfl rfl (Nat.le_of_ble_eq_true rfl) ⟨by decide, by decide⟩ (Nat.le_of_ble_eq_true rfl) (c_X5_shookBy hO hs (by omega) (by omega) (fun τ hf1 => ?_))
      refine x_goto (tgt := 23) dX5_shaken_15 rfl ?_
      exact x_ireti dX5_shaken_23 rfl (hk τ (mS_q hS hf1))
  · unfold oShaken at hk
    rw [if_neg hc] at hk
    refine x_aload_n (i := 0) dX5_shaken_0 rfl rfl ?_
    refine x_iload_n (i := 1) dX5_shaken_1 rfl rfl ?_
    refine x_iload_n (i := 2) dX5_shaken_2 rfl rfl ?_
    refine x_v2i dX5_shaken_3 okX5_areBoth ml_X5_146 rfl rfl (Nat.le_of_ble_eq_true rfl) ⟨by decide, by decide⟩ (Nat.le_of_ble_eq_true rfl) (c_X5_areBoth hs _ _ ?_)
    refine x_ifeqP (tgt := 18) dX5_shaken_6 rfl (fun h6 => ?_) (fun h6 => ?_)
    · skip
      refine x_aload_n (i := 0) dX5_shaken_18 rfl rfl ?_
      refine x_iconstN (n := 0) dX5_shaken_19 ?_
      refine x_v1i dX5_shaken_20 okX5_no ml_X5_118 rfl rfl (Nat.le_of_ble_eq_true rfl) ⟨by decide, by decide⟩ (Nat.le_of_ble_eq_true rfl) (c_X5_no hS 0 (by decide) (fun τ hτ => ?_))
      exact x_ireti dX5_shaken_23 rfl (hk τ hτ)
    · exact absurd h6 hc
set_option maxHeartbeats 4000000 in
set_option maxRecDepth 20000 in
theorem c_X5_days {σ : xH} {K : Int32 → xH → Prop} {S : St} (hS : mS σ S) (hO : tOk (gT S)) (m : Int32) (hk : ∀ τ, mS τ (oDays S m).2 → K (oDays S m).1 τ) : Evi l (oM ad D cy) mX5_days [.ref 0, .int m] σ K := by
  have hs := hS.1
  have h8 := ms_8 hs
  refine x_enter (ls := [some (.ref 0), some (.int m)]) rfl ?_
  by_cases hc : vR (nI 1) (nI 100) m
  · unfold oDays at hk
    rw [if_pos hc] at hk
    obtain ⟨m, _, hm, rfl⟩ := vR_of hc (by decide) (by decide)
    simp only [cn, nI_clamp (show m < 2 ^ 31 by omega), daysC_eq hO] at hk
    refine x_iload_n (i := 1) dX5_days_0 rfl rfl ?_
    refine x_iconstN (n := 1) dX5_days_1 ?_
    refine x_bipush (v := nI 100) dX5_days_2 (by decide) ?_
    refine x_s3i dX5_days_4 okX5_in1 ml_X5_52 (Nat.le_of_ble_eq_true rfl) ⟨by decide, by decide⟩ (Nat.le_of_ble_eq_true rfl) (c_X5_in1 _ _ _ ?_)
    refine x_ifneP (tgt := 16) dX5_days_7 rfl (fun h7 => ?_) (fun h7 => ?_)
    · skip
      refine x_aload_n (i := 0) dX5_days_16 rfl rfl ?_
      refine x_getr (i := 0) dX5_days_17 rfl rfl rfl (by decide) fl_X5_9 inX5 ?_
      refine x_iconstN (n := 0) dX5_days_20 ?_
      refine x_ialdE dX5_days_21 rfl (by omega) (by decide) (ms_day hs) ?_
      refine x_iload_n (i := 1) dX5_days_22 rfl rfl ?_
      refine x_iadd dX5_days_23 ?_
      refine x_sipush (v := nI 9999) dX5_days_24 (by decide) ?_
      refine x_icle (tgt := 36) dX5_days_27 rfl (fun h27 => ?_) (fun h27 => ?_)
      · skip
        refine x_aload_n (i := 0) dX5_days_36 rfl rfl ?_
        refine x_iload_n (i := 1) dX5_days_37 rfl rfl ?_
        refine x_v1v dX5_days_38 okX5_goes ml_X5_150 rfl rfl (Nat.le_of_ble_eq_true rfl) ⟨by decide, by decide⟩ (Nat.le_of_ble_eq_true rfl) (c_X5_goes hO hs (by omega) (fun τ hs1 hf1 => ?_))
        refine x_aload_n (i := 0) dX5_days_41 rfl rfl ?_
        refine x_v0i dX5_days_42 okX5_allShook ml_X5_130 rfl rfl (Nat.le_of_ble_eq_true rfl) ⟨by decide, by decide⟩ (Nat.le_of_ble_eq_true rfl) (c_X5_allShook (daysM_ok hO m) hs1 (fun υ hf2 => ?_))
        exact x_ireti dX5_days_45 rfl (by rw [if_pos h27] at hk; exact hk υ (mS_q (mS_g hS hf1 hs1) hf2))
      · skip
        refine x_aload_n (i := 0) dX5_days_30 rfl rfl ?_
        refine x_iconstN (n := 4) dX5_days_31 ?_
        refine x_v1i dX5_days_32 okX5_no ml_X5_118 rfl rfl (Nat.le_of_ble_eq_true rfl) ⟨by decide, by decide⟩ (Nat.le_of_ble_eq_true rfl) (c_X5_no hS 4 (by decide) (fun τ hτ => ?_))
        exact x_ireti dX5_days_35 rfl (by rw [if_neg h27] at hk; exact hk τ hτ)
    · exact absurd hc h7
  · unfold oDays at hk
    rw [if_neg hc] at hk
    refine x_iload_n (i := 1) dX5_days_0 rfl rfl ?_
    refine x_iconstN (n := 1) dX5_days_1 ?_
    refine x_bipush (v := nI 100) dX5_days_2 (by decide) ?_
    refine x_s3i dX5_days_4 okX5_in1 ml_X5_52 (Nat.le_of_ble_eq_true rfl) ⟨by decide, by decide⟩ (Nat.le_of_ble_eq_true rfl) (c_X5_in1 _ _ _ ?_)
    refine x_ifneP (tgt := 16) dX5_days_7 rfl (fun h7 => ?_) (fun h7 => ?_)
    · exact absurd h7 hc
    · skip
      refine x_aload_n (i := 0) dX5_days_10 rfl rfl ?_
      refine x_iconstN (n := 0) dX5_days_11 ?_
      refine x_v1i dX5_days_12 okX5_no ml_X5_118 rfl rfl (Nat.le_of_ble_eq_true rfl) ⟨by decide, by decide⟩ (Nat.le_of_ble_eq_true rfl) (c_X5_no hS 0 (by decide) (fun τ hτ => ?_))
      exact x_ireti dX5_days_15 rfl (hk τ hτ)
set_option maxHeartbeats 4000000 in
set_option maxRecDepth 20000 in
theorem c_X5_on {σ : xH} {K : Int32 → xH → Prop} {S : St} (hS : mS σ S) (hO : tOk (gT S)) (d m : Int32) (hk : ∀ τ, mS τ (oOn S d m).2 → K (oOn S d m).1 τ) : Evi l (oM ad D cy) mX5_on [.ref 0, .int d, .int m] σ K := by
  have hs := hS.1
  have h8 := ms_8 hs
  refine x_enter (ls := [some (.ref 0), some (.int d), some (.int m), none]) rfl ?_
  by_cases hc : vN (tN (gT S)) d ∧ vR (nI 0) (nI 100) m
  · unfold oOn at hk
    rw [if_pos hc] at hk
    obtain ⟨d, hd, rfl⟩ := vN_of hc.1 (by omega)
    have hg := ms_g3 hs hd
    have h8d : d < 2 ^ 31 := by omega
    simp only [cn, nI_clamp h8d] at hk
    obtain ⟨m, _, hm, rfl⟩ := vR_of hc.2 (by decide) (by decide)
    simp only [nI_clamp (show m < 2 ^ 31 by omega), daysC_eq hO] at hk
    refine x_aload_n (i := 0) dX5_on_0 rfl rfl ?_
    refine x_iload_n (i := 1) dX5_on_1 rfl rfl ?_
    refine x_v1i dX5_on_2 okX5_isDriver ml_X5_140 rfl rfl (Nat.le_of_ble_eq_true rfl) ⟨by decide, by decide⟩ (Nat.le_of_ble_eq_true rfl) (c_X5_isDriver hs _ ?_)
    refine x_ifeqP (tgt := 18) dX5_on_5 rfl (fun h5 => ?_) (fun h5 => ?_)
    · exact absurd hc.1 h5
    · skip
      refine x_iload_n (i := 2) dX5_on_8 rfl rfl ?_
      refine x_iconstN (n := 0) dX5_on_9 ?_
      refine x_bipush (v := nI 100) dX5_on_10 (by decide) ?_
      refine x_s3i dX5_on_12 okX5_in1 ml_X5_52 (Nat.le_of_ble_eq_true rfl) ⟨by decide, by decide⟩ (Nat.le_of_ble_eq_true rfl) (c_X5_in1 _ _ _ ?_)
      refine x_ifneP (tgt := 24) dX5_on_15 rfl (fun h15 => ?_) (fun h15 => ?_)
      · skip
        refine x_aload_n (i := 0) dX5_on_24 rfl rfl ?_
        refine x_v0v dX5_on_25 okX5_setsAside ml_X5_153 rfl rfl (Nat.le_of_ble_eq_true rfl) ⟨by decide, by decide⟩ (Nat.le_of_ble_eq_true rfl) (c_X5_setsAside (fun τ h1 hf1 => ?_))
        refine x_aload_n (i := 0) dX5_on_28 rfl rfl ?_
        refine x_iload_n (i := 2) dX5_on_29 rfl rfl ?_
        refine x_v1v dX5_on_30 okX5_goes ml_X5_150 rfl rfl (Nat.le_of_ble_eq_true rfl) ⟨by decide, by decide⟩ (Nat.le_of_ble_eq_true rfl) (c_X5_goes hO (ms_fc hs hf1) (by omega) (fun υ hs2 hf2 => ?_))
        refine x_aload_n (i := 0) dX5_on_33 rfl rfl ?_
        refine x_iload_n (i := 1) dX5_on_34 rfl rfl ?_
        refine x_iconstN (n := 2) dX5_on_35 ?_
        refine x_v2i dX5_on_36 okX5_get ml_X5_92 rfl rfl (Nat.le_of_ble_eq_true rfl) ⟨by decide, by decide⟩ (Nat.le_of_ble_eq_true rfl) (c_get2 hs2 (by rw [daysM_n]; exact hd) ?_)
        refine y_istore_n (i := 3) (ls2 := [_, _, _, _]) dX5_on_39 rfl (by decide) rfl rfl ?_
        refine x_aload_n (i := 0) dX5_on_40 rfl rfl ?_
        refine x_v0v dX5_on_41 okX5_laysBack ml_X5_156 rfl rfl (Nat.le_of_ble_eq_true rfl) ⟨by decide, by decide⟩ (Nat.le_of_ble_eq_true rfl) (c_X5_laysBack (fun ω h3 hf3 => ?_))
        refine x_iload_n (i := 3) dX5_on_44 rfl rfl ?_
        exact x_ireti dX5_on_45 rfl (hk ω (mS_back hS h1 hf1 hf2 h3 hf3))
      · exact absurd hc.2 h15
  · unfold oOn at hk
    rw [if_neg hc] at hk
    refine x_aload_n (i := 0) dX5_on_0 rfl rfl ?_
    refine x_iload_n (i := 1) dX5_on_1 rfl rfl ?_
    refine x_v1i dX5_on_2 okX5_isDriver ml_X5_140 rfl rfl (Nat.le_of_ble_eq_true rfl) ⟨by decide, by decide⟩ (Nat.le_of_ble_eq_true rfl) (c_X5_isDriver hs _ ?_)
    refine x_ifeqP (tgt := 18) dX5_on_5 rfl (fun h5 => ?_) (fun h5 => ?_)
    · skip
      refine x_aload_n (i := 0) dX5_on_18 rfl rfl ?_
      refine x_iconstN (n := 0) dX5_on_19 ?_
      refine x_v1i dX5_on_20 okX5_no ml_X5_118 rfl rfl (Nat.le_of_ble_eq_true rfl) ⟨by decide, by decide⟩ (Nat.le_of_ble_eq_true rfl) (c_X5_no hS 0 (by decide) (fun τ hτ => ?_))
      exact x_ireti dX5_on_23 rfl (hk τ hτ)
    · skip
      refine x_iload_n (i := 2) dX5_on_8 rfl rfl ?_
      refine x_iconstN (n := 0) dX5_on_9 ?_
      refine x_bipush (v := nI 100) dX5_on_10 (by decide) ?_
      refine x_s3i dX5_on_12 okX5_in1 ml_X5_52 (Nat.le_of_ble_eq_true rfl) ⟨by decide, by decide⟩ (Nat.le_of_ble_eq_true rfl) (c_X5_in1 _ _ _ ?_)
      refine x_ifneP (tgt := 24) dX5_on_15 rfl (fun h15 => ?_) (fun h15 => ?_)
      · exact absurd ⟨h5, h15⟩ hc
      · skip
        refine x_aload_n (i := 0) dX5_on_18 rfl rfl ?_
        refine x_iconstN (n := 0) dX5_on_19 ?_
        refine x_v1i dX5_on_20 okX5_no ml_X5_118 rfl rfl (Nat.le_of_ble_eq_true rfl) ⟨by decide, by decide⟩ (Nat.le_of_ble_eq_true rfl) (c_X5_no hS 0 (by decide) (fun τ hτ => ?_))
        exact x_ireti dX5_on_23 rfl (hk τ hτ)
set_option maxHeartbeats 4000000 in
set_option maxRecDepth 20000 in
theorem c_X5_onBy {σ : xH} {K : Int32 → xH → Prop} {T : Tw} (hO : tOk T) (hs : ms σ 1 T) {m : Nat} (hm : m ≤ 200) (c : Int32) (hk : ∀ ω, (∀ j, j < 147 → ω.1 1 j = σ.1 3 j) → fg σ ω → K (if c = 0 then pShAll (daysM T m) else pTmAll (daysM T m)) ω) : Evi l (oM ad D cy) mX5_onBy [.ref 0, .int (nI m), .int c] σ K := by
  refine x_enter (ls := [some (.ref 0), some (.int (nI m)), some (.int c), none]) rfl ?_
  refine x_aload_n (i := 0) dX5_onBy_0 rfl rfl ?_
  refine x_iload_n (i := 1) dX5_onBy_1 rfl rfl ?_
  refine x_v1v dX5_onBy_2 okX5_goes ml_X5_150 rfl rfl (Nat.le_of_ble_eq_true rfl) ⟨by decide, by decide⟩ (Nat.le_of_ble_eq_true rfl) (c_X5_goes hO hs (by omega) (fun τ hs1 hf1 => ?_))
  refine x_iload_n (i := 2) dX5_onBy_5 rfl rfl ?_
  refine x_ifne (tgt := 16) dX5_onBy_6 rfl (fun h6 => ?_) (fun h6 => ?_)
  · skip
    refine x_aload_n (i := 0) dX5_onBy_16 rfl rfl ?_
    refine x_v0i dX5_onBy_17 okX5_allTook ml_X5_134 rfl rfl (Nat.le_of_ble_eq_true rfl) ⟨by decide, by decide⟩ (Nat.le_of_ble_eq_true rfl) (c_X5_allTook (daysM_ok hO m) hs1 (fun υ hf2 => ?_))
    refine y_istore_n (i := 3) (ls2 := [_, _, _, _]) dX5_onBy_20 rfl (by decide) rfl rfl ?_
    refine x_aload_n (i := 0) dX5_onBy_21 rfl rfl ?_
    refine x_v0v dX5_onBy_22 okX5_laysBack ml_X5_156 rfl rfl (Nat.le_of_ble_eq_true rfl) ⟨by decide, by decide⟩ (Nat.le_of_ble_eq_true rfl) (c_X5_laysBack (fun ω h3 hf3 => ?_))
    refine x_iload_n (i := 3) dX5_onBy_25 rfl rfl ?_
    exact x_ireti dX5_onBy_26 rfl (by have hz := hk ω (fun j hj => by rw [h3 j hj, hf2.2.1 3 (by omega) (by omega), hf1.2.1 3 (by omega) (by omega) (by omega)]) (fg_tr hf1 (fg_tr (fq_fg hf2) (fc_fg hf3))); first | (rw [if_pos h6] at hz; exact hz) | (rw [if_neg h6] at hz; exact hz))
  · skip
    refine x_aload_n (i := 0) dX5_onBy_9 rfl rfl ?_
    refine x_v0i dX5_onBy_10 okX5_allShook ml_X5_130 rfl rfl (Nat.le_of_ble_eq_true rfl) ⟨by decide, by decide⟩ (Nat.le_of_ble_eq_true rfl) (c_X5_allShook (daysM_ok hO m) hs1 (fun υ hf2 => ?_))
    refine x_goto (tgt := 20) dX5_onBy_13 rfl ?_
    refine y_istore_n (i := 3) (ls2 := [_, _, _, _]) dX5_onBy_20 rfl (by decide) rfl rfl ?_
    refine x_aload_n (i := 0) dX5_onBy_21 rfl rfl ?_
    refine x_v0v dX5_onBy_22 okX5_laysBack ml_X5_156 rfl rfl (Nat.le_of_ble_eq_true rfl) ⟨by decide, by decide⟩ (Nat.le_of_ble_eq_true rfl) (c_X5_laysBack (fun ω h3 hf3 => ?_))
    refine x_iload_n (i := 3) dX5_onBy_25 rfl rfl ?_
    exact x_ireti dX5_onBy_26 rfl (by have hz := hk ω (fun j hj => by rw [h3 j hj, hf2.2.1 3 (by omega) (by omega), hf1.2.1 3 (by omega) (by omega) (by omega)]) (fg_tr hf1 (fg_tr (fq_fg hf2) (fc_fg hf3))); first | (rw [if_pos h6] at hz; exact hz) | (rw [if_neg h6] at hz; exact hz))
set_option maxHeartbeats 4000000 in
set_option maxRecDepth 20000 in
theorem c_X5_then {σ : xH} {K : Int32 → xH → Prop} {S : St} (hS : mS σ S) (hO : tOk (gT S)) (m c : Int32) (hk : ∀ τ, mS τ (oThen S m c).2 → K (oThen S m c).1 τ) : Evi l (oM ad D cy) mX5_then [.ref 0, .int m, .int c] σ K := by
  have hs := hS.1
  have h8 := ms_8 hs
  refine x_enter (ls := [some (.ref 0), some (.int m), some (.int c)]) rfl ?_
  by_cases hc : vR (nI 0) (nI 100) m ∧ vR (nI 0) (nI 1) c
  · unfold oThen at hk
    rw [if_pos hc] at hk
    obtain ⟨m, _, hm, rfl⟩ := vR_of hc.1 (by decide) (by decide)
    simp only [cn, nI_clamp (show m < 2 ^ 31 by omega), daysC_eq hO] at hk
    refine x_iload_n (i := 1) dX5_then_0 rfl rfl ?_
    refine x_iconstN (n := 0) dX5_then_1 ?_
    refine x_bipush (v := nI 100) dX5_then_2 (by decide) ?_
    refine x_s3i dX5_then_4 okX5_in1 ml_X5_52 (Nat.le_of_ble_eq_true rfl) ⟨by decide, by decide⟩ (Nat.le_of_ble_eq_true rfl) (c_X5_in1 _ _ _ ?_)
    refine x_ifeqP (tgt := 19) dX5_then_7 rfl (fun h7 => ?_) (fun h7 => ?_)
    · exact absurd hc.1 h7
    · skip
      refine x_iload_n (i := 2) dX5_then_10 rfl rfl ?_
      refine x_iconstN (n := 0) dX5_then_11 ?_
      refine x_iconstN (n := 1) dX5_then_12 ?_
      refine x_s3i dX5_then_13 okX5_in1 ml_X5_52 (Nat.le_of_ble_eq_true rfl) ⟨by decide, by decide⟩ (Nat.le_of_ble_eq_true rfl) (c_X5_in1 _ _ _ ?_)
      refine x_ifneP (tgt := 25) dX5_then_16 rfl (fun h16 => ?_) (fun h16 => ?_)
      · skip
        refine x_aload_n (i := 0) dX5_then_25 rfl rfl ?_
        refine x_v0v dX5_then_26 okX5_setsAside ml_X5_153 rfl rfl (Nat.le_of_ble_eq_true rfl) ⟨by decide, by decide⟩ (Nat.le_of_ble_eq_true rfl) (c_X5_setsAside (fun τ h1 hf1 => ?_))
        refine x_aload_n (i := 0) dX5_then_29 rfl rfl ?_
        refine x_iload_n (i := 1) dX5_then_30 rfl rfl ?_
        refine x_iload_n (i := 2) dX5_then_31 rfl rfl ?_
        refine x_v2i dX5_then_32 okX5_onBy ml_X5_159 rfl rfl (Nat.le_of_ble_eq_true rfl) ⟨by decide, by decide⟩ (Nat.le_of_ble_eq_true rfl) (c_X5_onBy hO (ms_fc hs hf1) (by omega) _ (fun ω h3 hf3 => ?_))
        exact x_ireti dX5_then_35 rfl (hk ω (mS_back2 hS h1 hf1 h3 hf3))
      · exact absurd hc.2 h16
  · unfold oThen at hk
    rw [if_neg hc] at hk
    refine x_iload_n (i := 1) dX5_then_0 rfl rfl ?_
    refine x_iconstN (n := 0) dX5_then_1 ?_
    refine x_bipush (v := nI 100) dX5_then_2 (by decide) ?_
    refine x_s3i dX5_then_4 okX5_in1 ml_X5_52 (Nat.le_of_ble_eq_true rfl) ⟨by decide, by decide⟩ (Nat.le_of_ble_eq_true rfl) (c_X5_in1 _ _ _ ?_)
    refine x_ifeqP (tgt := 19) dX5_then_7 rfl (fun h7 => ?_) (fun h7 => ?_)
    · skip
      refine x_aload_n (i := 0) dX5_then_19 rfl rfl ?_
      refine x_iconstN (n := 0) dX5_then_20 ?_
      refine x_v1i dX5_then_21 okX5_no ml_X5_118 rfl rfl (Nat.le_of_ble_eq_true rfl) ⟨by decide, by decide⟩ (Nat.le_of_ble_eq_true rfl) (c_X5_no hS 0 (by decide) (fun τ hτ => ?_))
      exact x_ireti dX5_then_24 rfl (hk τ hτ)
    · skip
      refine x_iload_n (i := 2) dX5_then_10 rfl rfl ?_
      refine x_iconstN (n := 0) dX5_then_11 ?_
      refine x_iconstN (n := 1) dX5_then_12 ?_
      refine x_s3i dX5_then_13 okX5_in1 ml_X5_52 (Nat.le_of_ble_eq_true rfl) ⟨by decide, by decide⟩ (Nat.le_of_ble_eq_true rfl) (c_X5_in1 _ _ _ ?_)
      refine x_ifneP (tgt := 25) dX5_then_16 rfl (fun h16 => ?_) (fun h16 => ?_)
      · exact absurd ⟨h7, h16⟩ hc
      · skip
        refine x_aload_n (i := 0) dX5_then_19 rfl rfl ?_
        refine x_iconstN (n := 0) dX5_then_20 ?_
        refine x_v1i dX5_then_21 okX5_no ml_X5_118 rfl rfl (Nat.le_of_ble_eq_true rfl) ⟨by decide, by decide⟩ (Nat.le_of_ble_eq_true rfl) (c_X5_no hS 0 (by decide) (fun τ hτ => ?_))
        exact x_ireti dX5_then_24 rfl (hk τ hτ)
end
