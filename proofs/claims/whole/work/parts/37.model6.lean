section
variable {l : Launch} {ad : Nat → Nat} {D : va_G} {cy : Nat → ClassId}
set_option maxHeartbeats 4000000 in
set_option maxRecDepth 20000 in
theorem l_X5_street {K : Int32 → xH → Prop} {σ0 : xH} {T : Tw} (hO : tOk T) {r : Nat} (hr : r < 3) (c : Int32) (hk : ∀ τ, ms τ 1 T → fq σ0 τ → Ex l (oM ad D cy) mX5_street 102 [some (.ref 0), some (.int (nI r)), some (.int c), some (.int (sWho (tGo T) r (tN T))), some (.int (pShIn T r)), none, none] [] τ (xQi K)) : ∀ (n i : Nat) (σ : xH) (a : Int32) (b : Int32), i + n = tN T → (a = sWho (tGo T) r i) → (b = sIn (fun d => pShake T (tKd T d) (tWs T d) r) (tGo T) r i) → (ms σ 1 T) → (fq σ0 σ) → Ex l (oM ad D cy) mX5_street 30 [some (.ref 0), some (.int (nI r)), some (.int c), some (.int a), some (.int b), some (.int (nI i)), none] [] σ (xQi K) := by
  intro n
  induction n with
  | zero =>
    intro i σ a b hi ea eb hs hf
    have hi : i = tN T := by omega
    subst hi
    have h8 := hO.1
    refine x_iload (i := 5) dX5_street_30 rfl ?_
    refine x_aload_n (i := 0) dX5_street_32 rfl rfl ?_
    refine x_getr (i := 0) dX5_street_33 rfl rfl rfl (by decide) fl_X5_9 inX5 ?_
    refine x_iconstN (n := 2) dX5_street_36 ?_
    refine x_ialdE dX5_street_37 rfl (by omega) (by decide) (ms_n hs) ?_
    refine x_icgeN (tgt := 102) (by omega) (by omega) dX5_street_38 rfl (fun h38 => ?_) (fun h38 => ?_)
    · skip
      subst ea
      subst eb
      exact x_mask [true, true, true, true, true, false, false] <| hk σ hs hf
    · exact absurd h38 (by omega)
  | succ n ih =>
    intro i σ a b hi ea eb hs hf
    have h8 := hO.1
    have hg := ms_g3 hs (d := i) (by omega)
    refine x_iload (i := 5) dX5_street_30 rfl ?_
    refine x_aload_n (i := 0) dX5_street_32 rfl rfl ?_
    refine x_getr (i := 0) dX5_street_33 rfl rfl rfl (by decide) fl_X5_9 inX5 ?_
    refine x_iconstN (n := 2) dX5_street_36 ?_
    refine x_ialdE dX5_street_37 rfl (by omega) (by decide) (ms_n hs) ?_
    refine x_icgeN (tgt := 102) (by omega) (by omega) dX5_street_38 rfl (fun h38 => ?_) (fun h38 => ?_)
    · exact absurd h38 (by omega)
    · skip
      refine x_aload_n (i := 0) dX5_street_41 rfl rfl ?_
      refine x_iload (i := 5) dX5_street_42 rfl ?_
      refine x_iconstN (n := 2) dX5_street_44 ?_
      refine x_v2i dX5_street_45 okX5_get ml_X5_92 rfl rfl (Nat.le_of_ble_eq_true rfl) ⟨by decide, by decide⟩ (Nat.le_of_ble_eq_true rfl) (c_get2 hs (by omega) ?_)
      refine x_iload_n (i := 1) dX5_street_48 rfl rfl ?_
      refine x_icneN (tgt := 56) (by omega) (by omega) dX5_street_49 rfl (fun h49 => ?_) (fun h49 => ?_)
      · skip
        refine x_iconstN (n := 0) dX5_street_56 ?_
        refine y_istore (i := 6) (ls2 := [_, _, _, _, _, _, _]) dX5_street_57 (by decide) rfl rfl ?_
        refine x_iload_n (i := 3) dX5_street_59 rfl rfl ?_
        refine x_iload (i := 6) dX5_street_60 rfl ?_
        refine x_ifeq (tgt := 72) dX5_street_62 rfl (fun h62 => ?_) (fun h62 => ?_)
        · skip
          refine x_iconstN (n := 0) dX5_street_72 ?_
          refine x_ior dX5_street_73 ?_
          refine y_istore_n (i := 3) (ls2 := [_, _, _, _, _, _, _]) dX5_street_74 rfl (by decide) rfl rfl ?_
          refine x_iload (i := 4) dX5_street_75 rfl ?_
          refine x_iload (i := 6) dX5_street_77 rfl ?_
          refine x_ifeq (tgt := 92) dX5_street_79 rfl (fun h79 => ?_) (fun h79 => ?_)
          · skip
            refine x_iconstN (n := 0) dX5_street_92 ?_
            refine x_iadd dX5_street_93 ?_
            refine y_istore (i := 4) (ls2 := [_, _, _, _, _, _, _]) dX5_street_94 (by decide) rfl rfl ?_
            refine y_iincN (i := 5) (ls2 := [_, _, _, _, _, _, _]) dX5_street_96 rfl (by decide) rfl rfl ?_
            refine x_goto (tgt := 30) dX5_street_99 rfl ?_
            exact x_mask [true, true, true, true, true, true, false] <| ih (i + 1) σ _ _ (by omega) (by rw [show sWho (tGo T) r (i + 1) = _ from if_neg h49, ea, nI_0, Int32.or_zero]) (by rw [show sIn (fun d => pShake T (tKd T d) (tWs T d) r) (tGo T) r (i + 1) = _ from if_neg h49, eb, nI_0, Int32.add_zero]) hs hf
          · exact absurd h79 (by decide)
        · exact absurd h62 (by decide)
      · skip
        refine x_iconstN (n := 1) dX5_street_52 ?_
        refine x_goto (tgt := 57) dX5_street_53 rfl ?_
        refine y_istore (i := 6) (ls2 := [_, _, _, _, _, _, _]) dX5_street_57 (by decide) rfl rfl ?_
        refine x_iload_n (i := 3) dX5_street_59 rfl rfl ?_
        refine x_iload (i := 6) dX5_street_60 rfl ?_
        refine x_ifeq (tgt := 72) dX5_street_62 rfl (fun h62 => ?_) (fun h62 => ?_)
        · exact absurd h62 (by decide)
        · skip
          refine x_iconstN (n := 1) dX5_street_65 ?_
          refine x_iload (i := 5) dX5_street_66 rfl ?_
          refine x_ishl dX5_street_68 ?_
          refine x_goto (tgt := 73) dX5_street_69 rfl ?_
          refine x_ior dX5_street_73 ?_
          refine y_istore_n (i := 3) (ls2 := [_, _, _, _, _, _, _]) dX5_street_74 rfl (by decide) rfl rfl ?_
          refine x_iload (i := 4) dX5_street_75 rfl ?_
          refine x_iload (i := 6) dX5_street_77 rfl ?_
          refine x_ifeq (tgt := 92) dX5_street_79 rfl (fun h79 => ?_) (fun h79 => ?_)
          · exact absurd h79 (by decide)
          · skip
            refine x_aload_n (i := 0) dX5_street_82 rfl rfl ?_
            refine x_iload (i := 5) dX5_street_83 rfl ?_
            refine x_iload_n (i := 1) dX5_street_85 rfl rfl ?_
            refine x_v2i dX5_street_86 okX5_shookBy ml_X5_99 rfl rfl (Nat.le_of_ble_eq_true rfl) ⟨by decide, by decide⟩ (Nat.le_of_ble_eq_true rfl) (c_X5_shookBy hO hs (by omega) (by omega) (fun τ hf1 => ?_))
            refine x_goto (tgt := 93) dX5_street_89 rfl ?_
            refine x_iadd dX5_street_93 ?_
            refine y_istore (i := 4) (ls2 := [_, _, _, _, _, _, _]) dX5_street_94 (by decide) rfl rfl ?_
            refine y_iincN (i := 5) (ls2 := [_, _, _, _, _, _, _]) dX5_street_96 rfl (by decide) rfl rfl ?_
            refine x_goto (tgt := 30) dX5_street_99 rfl ?_
            exact x_mask [true, true, true, true, true, true, false] <| ih (i + 1) τ _ _ (by omega) (by rw [show sWho (tGo T) r (i + 1) = _ from if_pos h49, ea]) (by rw [show sIn (fun d => pShake T (tKd T d) (tWs T d) r) (tGo T) r (i + 1) = _ from if_pos h49, eb]) (ms_fq hs hf1 (by decide) (by decide)) (fq_tr hf hf1)
theorem in03 {c : Int32} (h : vR (nI 0) (nI 3) c) (h0 : ¬ c = nI 0) (h1 : ¬ c = nI 1) (h2 : ¬ c = nI 2) : c = nI 3 := by
  obtain ⟨j, _, h3, rfl⟩ := vR_of h (by decide) (by decide)
  match j, h3, h0, h1, h2 with
  | 0, _, h, _, _ => exact absurd rfl h
  | 1, _, _, h, _ => exact absurd rfl h
  | 2, _, _, _, h => exact absurd rfl h
  | 3, _, _, _, _ => rfl
set_option maxHeartbeats 4000000 in
set_option maxRecDepth 20000 in
theorem c_X5_street {σ : xH} {K : Int32 → xH → Prop} {S : St} (hS : mS σ S) (hO : tOk (gT S)) (a c : Int32) (hk : ∀ τ, mS τ (oStreet S a c).2 → K (oStreet S a c).1 τ) : Evi l (oM ad D cy) mX5_street [.ref 0, .int a, .int c] σ K := by
  have hs := hS.1
  have h8 := ms_8 hs
  refine x_enter (ls := [some (.ref 0), some (.int a), some (.int c), none, none, none, none]) rfl ?_
  by_cases hc : vN 3 a
  · unfold oStreet at hk
    rw [if_pos hc] at hk
    obtain ⟨r, hr, rfl⟩ := vN_of hc (by decide)
    simp only [cn, nI_clamp (show r < 2 ^ 31 by omega)] at hk
    refine x_iload_n (i := 1) dX5_street_0 rfl rfl ?_
    refine x_s1i dX5_street_1 okX5_isStreet ml_X5_112 (Nat.le_of_ble_eq_true rfl) ⟨by decide, by decide⟩ (Nat.le_of_ble_eq_true rfl) (c_X5_isStreet _ ?_)
    refine x_ifeqP (tgt := 16) dX5_street_4 rfl (fun h4 => ?_) (fun h4 => ?_)
    · exact absurd hc h4
    · skip
      refine x_iload_n (i := 2) dX5_street_7 rfl rfl ?_
      refine x_iconstN (n := 0) dX5_street_8 ?_
      refine x_iconstN (n := 3) dX5_street_9 ?_
      refine x_s3i dX5_street_10 okX5_in1 ml_X5_52 (Nat.le_of_ble_eq_true rfl) ⟨by decide, by decide⟩ (Nat.le_of_ble_eq_true rfl) (c_X5_in1 _ _ _ ?_)
      refine x_ifneP (tgt := 22) dX5_street_13 rfl (fun h13 => ?_) (fun h13 => ?_)
      · skip
        refine x_iconstN (n := 0) dX5_street_22 ?_
        refine y_istore_n (i := 3) (ls2 := [_, _, _, _, _, _, _]) dX5_street_23 rfl (by decide) rfl rfl ?_
        refine x_iconstN (n := 0) dX5_street_24 ?_
        refine y_istore (i := 4) (ls2 := [_, _, _, _, _, _, _]) dX5_street_25 (by decide) rfl rfl ?_
        refine x_iconstN (n := 0) dX5_street_27 ?_
        refine y_istore (i := 5) (ls2 := [_, _, _, _, _, _, _]) dX5_street_28 (by decide) rfl rfl ?_
        refine l_X5_street hO hr c (fun τ hs1 hf1 => ?_) (tN (gT S)) 0 σ _ _ (by omega) rfl rfl hs (fq_rf σ)
        refine x_iload_n (i := 2) dX5_street_102 rfl rfl ?_
        refine x_ifne (tgt := 114) dX5_street_103 rfl (fun h103 => ?_) (fun h103 => ?_)
        · skip
          refine x_iload_n (i := 2) dX5_street_114 rfl rfl ?_
          refine x_iconstN (n := 1) dX5_street_115 ?_
          refine x_icne (tgt := 127) dX5_street_116 rfl (fun h116 => ?_) (fun h116 => ?_)
          · skip
            refine x_iload_n (i := 2) dX5_street_127 rfl rfl ?_
            refine x_iconstN (n := 2) dX5_street_128 ?_
            refine x_icne (tgt := 136) dX5_street_129 rfl (fun h129 => ?_) (fun h129 => ?_)
            · skip
              refine x_iload (i := 4) dX5_street_136 rfl ?_
              exact x_ireti dX5_street_138 rfl (by have h0 : ¬ c = nI 0 := h103; first | (rw [if_neg h0, if_pos h116] at hk; exact hk τ (mS_q hS hf1)) | (rw [if_neg h0, if_neg h116, if_pos h129] at hk; exact hk τ (mS_q hS hf1)) | (have h3 : c = nI 3 := in03 h13 h0 h116 h129; rw [if_neg h0, if_neg h116, if_neg h129, if_pos h3] at hk; exact hk τ (mS_q hS hf1)))
            · skip
              refine x_iload_n (i := 3) dX5_street_132 rfl rfl ?_
              refine x_goto (tgt := 138) dX5_street_133 rfl ?_
              exact x_ireti dX5_street_138 rfl (by have h0 : ¬ c = nI 0 := h103; first | (rw [if_neg h0, if_pos h116] at hk; exact hk τ (mS_q hS hf1)) | (rw [if_neg h0, if_neg h116, if_pos h129] at hk; exact hk τ (mS_q hS hf1)) | (have h3 : c = nI 3 := in03 h13 h0 h116 h129; rw [if_neg h0, if_neg h116, if_neg h129, if_pos h3] at hk; exact hk τ (mS_q hS hf1)))
          · skip
            refine x_aload_n (i := 0) dX5_street_119 rfl rfl ?_
            refine x_iload_n (i := 1) dX5_street_120 rfl rfl ?_
            refine x_v1i dX5_street_121 okX5_bumpsIn ml_X5_127 rfl rfl (Nat.le_of_ble_eq_true rfl) ⟨by decide, by decide⟩ (Nat.le_of_ble_eq_true rfl) (c_X5_bumpsIn hs1 hr ?_)
            refine x_goto (tgt := 138) dX5_street_124 rfl ?_
            exact x_ireti dX5_street_138 rfl (by have h0 : ¬ c = nI 0 := h103; first | (rw [if_neg h0, if_pos h116] at hk; exact hk τ (mS_q hS hf1)) | (rw [if_neg h0, if_neg h116, if_pos h129] at hk; exact hk τ (mS_q hS hf1)) | (have h3 : c = nI 3 := in03 h13 h0 h116 h129; rw [if_neg h0, if_neg h116, if_neg h129, if_pos h3] at hk; exact hk τ (mS_q hS hf1)))
        · skip
          refine x_aload_n (i := 0) dX5_street_106 rfl rfl ?_
          refine x_iload_n (i := 1) dX5_street_107 rfl rfl ?_
          refine x_v1i dX5_street_108 okX5_thingsIn ml_X5_124 rfl rfl (Nat.le_of_ble_eq_true rfl) ⟨by decide, by decide⟩ (Nat.le_of_ble_eq_true rfl) (c_X5_thingsIn hs1 hr ?_)
          refine x_goto (tgt := 138) dX5_street_111 rfl ?_
          exact x_ireti dX5_street_138 rfl (by have h0 : c = nI 0 := h103; rw [if_pos h0] at hk; exact hk τ (mS_q hS hf1))
      · skip
        refine x_aload_n (i := 0) dX5_street_16 rfl rfl ?_
        refine x_iconstN (n := 0) dX5_street_17 ?_
        refine x_v1i dX5_street_18 okX5_no ml_X5_118 rfl rfl (Nat.le_of_ble_eq_true rfl) ⟨by decide, by decide⟩ (Nat.le_of_ble_eq_true rfl) (c_X5_no hS 0 (by decide) (fun τ hτ => ?_))
        exact x_ireti dX5_street_21 rfl (by rw [if_neg (fun z => h13 (by rw [z]; decide)), if_neg (fun z => h13 (by rw [z]; decide)), if_neg (fun z => h13 (by rw [z]; decide)), if_neg (fun z => h13 (by rw [z]; decide))] at hk; exact hk τ hτ)
  · unfold oStreet at hk
    rw [if_neg hc] at hk
    refine x_iload_n (i := 1) dX5_street_0 rfl rfl ?_
    refine x_s1i dX5_street_1 okX5_isStreet ml_X5_112 (Nat.le_of_ble_eq_true rfl) ⟨by decide, by decide⟩ (Nat.le_of_ble_eq_true rfl) (c_X5_isStreet _ ?_)
    refine x_ifeqP (tgt := 16) dX5_street_4 rfl (fun h4 => ?_) (fun h4 => ?_)
    · skip
      refine x_aload_n (i := 0) dX5_street_16 rfl rfl ?_
      refine x_iconstN (n := 0) dX5_street_17 ?_
      refine x_v1i dX5_street_18 okX5_no ml_X5_118 rfl rfl (Nat.le_of_ble_eq_true rfl) ⟨by decide, by decide⟩ (Nat.le_of_ble_eq_true rfl) (c_X5_no hS 0 (by decide) (fun τ hτ => ?_))
      exact x_ireti dX5_street_21 rfl (hk τ hτ)
    · exact absurd h4 hc
set_option maxHeartbeats 4000000 in
set_option maxRecDepth 20000 in
theorem l_X5_leaves {K : Int32 → xH → Prop} {σ0 σ1 : xH} {S : St} (hS : mS σ0 S) (hO : tOk (gT S)) (h1 : ∀ j, j < 147 → σ1.1 3 j = σ0.1 1 j) (hf1 : fc 3 σ0 σ1) {d : Nat} (hd : d < tN (gT S)) (o : Option Nat) (hk : ∀ τ, mS τ (oR S o).2 → K (oR S o).1 τ) : ∀ (n i : Nat) (σ : xH), i + n = 101 → o = lvF (gT S) d n i → ms σ 1 (daysM (gT S) i) → fg σ1 σ → Ex l (oM ad D cy) mX5_leaves 27 [some (.ref 0), some (.int (nI d)), some (.int (nI (tGo (gT S) d))), some (.int (nI i))] [] σ (xQi K) := by
  have h8 := ms_8 hS.1
  have hg := ms_g3 hS.1 hd
  intro n
  induction n with
  | zero =>
    intro i σ hi eo hs hf
    have hi : i = 101 := by omega
    subst hi
    refine x_iload_n (i := 3) dX5_leaves_27 rfl rfl ?_
    refine x_bipush (v := nI 100) dX5_leaves_28 (by decide) ?_
    refine x_icgtN (tgt := 54) (by omega) (by omega) dX5_leaves_30 rfl (fun h30 => ?_) (fun h30 => ?_)
    · skip
      refine x_aload_n (i := 0) dX5_leaves_54 rfl rfl ?_
      refine x_v0v dX5_leaves_55 okX5_laysBack ml_X5_156 rfl rfl (Nat.le_of_ble_eq_true rfl) ⟨by decide, by decide⟩ (Nat.le_of_ble_eq_true rfl) (c_X5_laysBack (fun ω h3 hf3 => ?_))
      refine x_iload_n (i := 3) dX5_leaves_58 rfl rfl ?_
      refine x_bipush (v := nI 100) dX5_leaves_59 (by decide) ?_
      refine x_icleN (tgt := 72) (by omega) (by omega) dX5_leaves_61 rfl (fun h61 => ?_) (fun h61 => ?_)
      · exact absurd h61 (by omega)
      · skip
        refine x_aload_n (i := 0) dX5_leaves_64 rfl rfl ?_
        refine x_iconstN (n := 3) dX5_leaves_65 ?_
        refine x_v1i dX5_leaves_66 okX5_no ml_X5_118 rfl rfl (Nat.le_of_ble_eq_true rfl) ⟨by decide, by decide⟩ (Nat.le_of_ble_eq_true rfl) (c_X5_no (mS_back hS h1 hf1 hf h3 hf3) 3 (by decide) (fun ν hτ => ?_))
        refine x_goto (tgt := 73) dX5_leaves_69 rfl ?_
        exact x_ireti dX5_leaves_73 rfl (by subst eo; exact hk ν hτ)
    · exact absurd h30 (by omega)
  | succ n ih =>
    intro i σ hi eo hs hf
    have hd2 : d < tN (daysM (gT S) i) := by rw [daysM_n]; exact hd
    have hg2 := ms_g3 hs hd2
    rw [lvF, daysC_eq hO] at eo
    refine x_iload_n (i := 3) dX5_leaves_27 rfl rfl ?_
    refine x_bipush (v := nI 100) dX5_leaves_28 (by decide) ?_
    refine x_icgtN (tgt := 54) (by omega) (by omega) dX5_leaves_30 rfl (fun h30 => ?_) (fun h30 => ?_)
    · exact absurd h30 (by omega)
    · skip
      refine x_aload_n (i := 0) dX5_leaves_33 rfl rfl ?_
      refine x_iload_n (i := 1) dX5_leaves_34 rfl rfl ?_
      refine x_iconstN (n := 2) dX5_leaves_35 ?_
      refine x_v2i dX5_leaves_36 okX5_get ml_X5_92 rfl rfl (Nat.le_of_ble_eq_true rfl) ⟨by decide, by decide⟩ (Nat.le_of_ble_eq_true rfl) (c_get2 hs hd2 ?_)
      refine x_iload_n (i := 2) dX5_leaves_39 rfl rfl ?_
      refine x_icneN (tgt := 54) (by omega) (by omega) dX5_leaves_40 rfl (fun h40 => ?_) (fun h40 => ?_)
      · skip
        refine x_aload_n (i := 0) dX5_leaves_54 rfl rfl ?_
        refine x_v0v dX5_leaves_55 okX5_laysBack ml_X5_156 rfl rfl (Nat.le_of_ble_eq_true rfl) ⟨by decide, by decide⟩ (Nat.le_of_ble_eq_true rfl) (c_X5_laysBack (fun ω h3 hf3 => ?_))
        refine x_iload_n (i := 3) dX5_leaves_58 rfl rfl ?_
        refine x_bipush (v := nI 100) dX5_leaves_59 (by decide) ?_
        refine x_icleN (tgt := 72) (by omega) (by omega) dX5_leaves_61 rfl (fun h61 => ?_) (fun h61 => ?_)
        · skip
          refine x_iload_n (i := 3) dX5_leaves_72 rfl rfl ?_
          exact x_ireti dX5_leaves_73 rfl (by have e := eo.trans (if_neg h40); subst e; exact hk ω (mS_back hS h1 hf1 hf h3 hf3))
        · exact absurd h61 (by omega)
      · skip
        refine x_aload_n (i := 0) dX5_leaves_43 rfl rfl ?_
        refine x_iconstN (n := 1) dX5_leaves_44 ?_
        refine x_v1v dX5_leaves_45 okX5_goes ml_X5_150 rfl rfl (Nat.le_of_ble_eq_true rfl) ⟨by decide, by decide⟩ (Nat.le_of_ble_eq_true rfl) (c_X5_goes (daysM_ok hO i) hs (m := 1) (by omega) (fun τ hs1 hf2 => ?_))
        refine y_iincN (i := 3) (ls2 := [_, _, _, _]) dX5_leaves_48 rfl (by decide) rfl rfl ?_
        refine x_goto (tgt := 27) dX5_leaves_51 rfl ?_
        exact ih (i + 1) τ (by omega) (eo.trans (if_pos h40)) hs1 (fg_tr hf hf2)
set_option maxHeartbeats 4000000 in
set_option maxRecDepth 20000 in
theorem c_X5_leaves {σ : xH} {K : Int32 → xH → Prop} {S : St} (hS : mS σ S) (hO : tOk (gT S)) (d : Int32) (hk : ∀ τ, mS τ (oLeaves S d).2 → K (oLeaves S d).1 τ) : Evi l (oM ad D cy) mX5_leaves [.ref 0, .int d] σ K := by
  have hs := hS.1
  have h8 := ms_8 hs
  refine x_enter (ls := [some (.ref 0), some (.int d), none, none]) rfl ?_
  by_cases hc : vN (tN (gT S)) d
  · unfold oLeaves at hk
    rw [if_pos hc] at hk
    obtain ⟨d, hd, rfl⟩ := vN_of hc (by omega)
    have hg := ms_g3 hs hd
    have h8d : d < 2 ^ 31 := by omega
    simp only [cn, nI_clamp h8d] at hk
    refine x_aload_n (i := 0) dX5_leaves_0 rfl rfl ?_
    refine x_iload_n (i := 1) dX5_leaves_1 rfl rfl ?_
    refine x_v1i dX5_leaves_2 okX5_isDriver ml_X5_140 rfl rfl (Nat.le_of_ble_eq_true rfl) ⟨by decide, by decide⟩ (Nat.le_of_ble_eq_true rfl) (c_X5_isDriver hs _ ?_)
    refine x_ifneP (tgt := 14) dX5_leaves_5 rfl (fun h5 => ?_) (fun h5 => ?_)
    · skip
      refine x_aload_n (i := 0) dX5_leaves_14 rfl rfl ?_
      refine x_v0v dX5_leaves_15 okX5_setsAside ml_X5_153 rfl rfl (Nat.le_of_ble_eq_true rfl) ⟨by decide, by decide⟩ (Nat.le_of_ble_eq_true rfl) (c_X5_setsAside (fun τ h1 hf1 => ?_))
      refine x_aload_n (i := 0) dX5_leaves_18 rfl rfl ?_
      refine x_iload_n (i := 1) dX5_leaves_19 rfl rfl ?_
      refine x_iconstN (n := 2) dX5_leaves_20 ?_
      refine x_v2i dX5_leaves_21 okX5_get ml_X5_92 rfl rfl (Nat.le_of_ble_eq_true rfl) ⟨by decide, by decide⟩ (Nat.le_of_ble_eq_true rfl) (c_get2 (ms_fc hs hf1) hd ?_)
      refine y_istore_n (i := 2) (ls2 := [_, _, _, _]) dX5_leaves_24 rfl (by decide) rfl rfl ?_
      refine x_iconstN (n := 0) dX5_leaves_25 ?_
      refine y_istore_n (i := 3) (ls2 := [_, _, _, _]) dX5_leaves_26 rfl (by decide) rfl rfl ?_
      refine x_iload_n (i := 3) dX5_leaves_27 rfl rfl ?_
      refine x_bipush (v := nI 100) dX5_leaves_28 (by decide) ?_
      refine x_icgtN (tgt := 54) (by omega) (by omega) dX5_leaves_30 rfl (fun h30 => ?_) (fun h30 => ?_)
      · exact absurd h30 (by decide)
      · skip
        refine x_aload_n (i := 0) dX5_leaves_33 rfl rfl ?_
        refine x_iload_n (i := 1) dX5_leaves_34 rfl rfl ?_
        refine x_iconstN (n := 2) dX5_leaves_35 ?_
        refine x_v2i dX5_leaves_36 okX5_get ml_X5_92 rfl rfl (Nat.le_of_ble_eq_true rfl) ⟨by decide, by decide⟩ (Nat.le_of_ble_eq_true rfl) (c_get2 (ms_fc hs hf1) hd ?_)
        refine x_iload_n (i := 2) dX5_leaves_39 rfl rfl ?_
        refine x_icneN (tgt := 54) (by omega) (by omega) dX5_leaves_40 rfl (fun h40 => ?_) (fun h40 => ?_)
        · exact absurd rfl h40
        · skip
          refine x_aload_n (i := 0) dX5_leaves_43 rfl rfl ?_
          refine x_iconstN (n := 1) dX5_leaves_44 ?_
          refine x_v1v dX5_leaves_45 okX5_goes ml_X5_150 rfl rfl (Nat.le_of_ble_eq_true rfl) ⟨by decide, by decide⟩ (Nat.le_of_ble_eq_true rfl) (c_X5_goes hO (ms_fc hs hf1) (m := 1) (by omega) (fun υ hs1 hf2 => ?_))
          refine y_iincN (i := 3) (ls2 := [_, _, _, _]) dX5_leaves_48 rfl (by decide) rfl rfl ?_
          refine x_goto (tgt := 27) dX5_leaves_51 rfl ?_
          exact l_X5_leaves hS hO h1 hf1 hd _ hk 100 1 υ rfl rfl hs1 hf2
    · exact absurd hc h5
  · unfold oLeaves at hk
    rw [if_neg hc] at hk
    refine x_aload_n (i := 0) dX5_leaves_0 rfl rfl ?_
    refine x_iload_n (i := 1) dX5_leaves_1 rfl rfl ?_
    refine x_v1i dX5_leaves_2 okX5_isDriver ml_X5_140 rfl rfl (Nat.le_of_ble_eq_true rfl) ⟨by decide, by decide⟩ (Nat.le_of_ble_eq_true rfl) (c_X5_isDriver hs _ ?_)
    refine x_ifneP (tgt := 14) dX5_leaves_5 rfl (fun h5 => ?_) (fun h5 => ?_)
    · exact absurd h5 hc
    · skip
      refine x_aload_n (i := 0) dX5_leaves_8 rfl rfl ?_
      refine x_iconstN (n := 0) dX5_leaves_9 ?_
      refine x_v1i dX5_leaves_10 okX5_no ml_X5_118 rfl rfl (Nat.le_of_ble_eq_true rfl) ⟨by decide, by decide⟩ (Nat.le_of_ble_eq_true rfl) (c_X5_no hS 0 (by decide) (fun τ hτ => ?_))
      exact x_ireti dX5_leaves_13 rfl (hk τ hτ)
end
