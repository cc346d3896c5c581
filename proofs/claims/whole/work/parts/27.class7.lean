section
variable {l : Launch} {ad : Nat → Nat} {D : va_G} {cy : Nat → ClassId}
theorem lcmp0 {x y : Int64} (h : lg_cmp x y = 0) : x = y := by
  unfold lg_cmp at h
  split at h
  · exact absurd h (by decide)
  · rename_i h1
    split at h
    · first | assumption | exact absurd h (by decide)
    · first | exact absurd h (by decide) | assumption
theorem lcmpN {x y : Int64} (h : ¬ lg_cmp x y = 0) : ¬ x = y := by
  intro e
  subst e
  apply h
  unfold lg_cmp
  simp
theorem mn20 {z : Nat} (hz : z < 2 ^ 31) : (if nI 20 < nI z then nI 20 else nI z) = nI (min z 20) := by
  by_cases h : nI 20 < nI z
  · have := (nI_ltI (by decide) hz).mp h
    rw [if_pos h, Nat.min_eq_right (by omega)]
  · have : ¬ 20 < z := fun q => h ((nI_ltI (by decide) hz).mpr q)
    rw [if_neg h, Nat.min_eq_left (by omega)]
/-- the things that a sheet lays, as far as i, and how many -/
def lyS (T : Tw) (f : Nat → Int64) (r : Nat) : Nat → Tw × Int32
  | 0 => (T, nI 0)
  | i + 1 => if ¬ lg_cmp (f i) 0 < 0 ∧ ¬ 0 < lg_cmp (f i) 4 then (layT (lyS T f r i).1 (r * 20 + i) (f i).toInt32, (lyS T f r i).2 + nI 1) else lyS T f r i
def bkF (f : Nat → Int64) (b : Int32) (p : Nat → Int32) : Nat → (Nat → Int64)
  | 0 => f
  | i + 1 => vp_updL (bkF f b p i) i (sBits b (p i).toInt64)
def gJ (T : Tw) (f : Nat → Int64) (k w : Int32) (r : Nat) : Nat → Bool
  | 0 => true
  | i + 1 => gJ T f k w r i && decide (f i = (pP T k w r (i + 1)).toInt64)
theorem gJ_f (T : Tw) (f : Nat → Int64) (k w : Int32) (r : Nat) {i : Nat} (h : gJ T f k w r i = false) : ∀ m, i ≤ m → gJ T f k w r m = false := by
  intro m
  induction m with
  | zero => intro hm; rwa [Nat.le_zero.mp hm] at h
  | succ m ih =>
    intro hm
    by_cases e : i = m + 1
    · rwa [← e]
    · rw [gJ, ih (by omega)]; rfl
def rdI (T : Tw) (f : Nat → Int64) (m r k : Nat) (c : Int32) : Nat → Int32
  | 0 => c
  | i + 1 => if gJ T f (nI k) (nI (10 + i)) r m = true then rdI T f m r k c i + nI 1 else rdI T f m r k c i
def rdO (T : Tw) (f : Nat → Int64) (m r : Nat) : Nat → Int32
  | 0 => nI 0
  | k + 1 => rdI T f m r k (rdO T f m r k) 71
def oLays (S : St) (s a : Int32) : Int32 × St := if vR (nI 0) (nI 3) s then (if gW S (cn s) = 0 then tellS S 5 else if vN 3 a then ((lyS (gT S) (gN S (cn s)) (cn a) (min (gZ S (cn s)) 20)).2, pT S (lyS (gT S) (gN S (cn s)) (cn a) (min (gZ S (cn s)) 20)).1) else tellS S 0) else tellS S 0
def oBook (S : St) (s d a : Int32) : Int32 × St := if vR (nI 0) (nI 3) s then (if gW S (cn s) = 0 then tellS S 5 else if vN (tN (gT S)) d ∧ vN 3 a then (nI (min (gZ S (cn s)) 20), pSh S (cn s) (gW S (cn s)) (gZ S (cn s)) (bkF (gN S (cn s)) (gW S (cn s)) (fun i => pP (gT S) (tKd (gT S) (cn d)) (tWs (gT S) (cn d)) (cn a) (i + 1)) (min (gZ S (cn s)) 20))) else tellS S 0) else tellS S 0
def oRead (S : St) (s d a : Int32) : Int32 × St := if vR (nI 0) (nI 3) s then (if gW S (cn s) = 0 then tellS S 5 else if vN (tN (gT S)) d ∧ vN 3 a then (if gZ S (cn s) ≤ 20 then (rdO (gT S) (gN S (cn s)) (min (gZ S (cn s)) 20) (cn a) 6, S) else tellS S 6) else tellS S 0) else tellS S 0
set_option maxHeartbeats 4000000 in
set_option maxRecDepth 20000 in
theorem l_X3_goesJustAs {K : Int32 → xH → Prop} {σ : xH} {t : Nat} {T : Tw} (hT : isT t) (hw : tw σ t T) {j z : Nat} {b : Int32} {f : Nat → Int64} (hj : j < 4) (hs : sh σ j b z f) (k w : Int32) {r : Nat} (hr : r < 3) (hk : K (xb (gJ T f k w r (min z 20) = true)) σ) : ∀ (n i : Nat) (p : Int32), i + n = min z 20 → (p = pP T k w r i) → (gJ T f k w r i = true) → Ex l (oC ad D cy) mX3_goesJustAs 17 [some (.ref t), some (.ref (22 + 2 * j)), some (.int k), some (.int w), some (.int (nI r)), some (.int p), some (.int (nI (min z 20))), some (.int (nI i))] [] σ (xQi K) := by
  intro n
  induction n with
  | zero =>
    intro i p hi ep eg
    have hi : i = min z 20 := by omega
    subst hi
    have hz := hs.2.2.2
    refine x_iload (i := 7) dX3_goesJustAs_17 rfl ?_
    refine x_iload (i := 6) dX3_goesJustAs_19 rfl ?_
    refine x_icgeN (tgt := 63) (by omega) (by omega) dX3_goesJustAs_21 rfl (fun h21 => ?_) (fun h21 => ?_)
    · skip
      refine x_iconstN (n := 1) dX3_goesJustAs_63 ?_
      exact x_iretz dX3_goesJustAs_64 rfl (by decide) (by rw [xb_t eg] at hk; exact hk)
    · exact absurd h21 (by omega)
  | succ n ih =>
    intro i p hi ep eg
    have hz := hs.2.2.2
    subst ep
    refine x_iload (i := 7) dX3_goesJustAs_17 rfl ?_
    refine x_iload (i := 6) dX3_goesJustAs_19 rfl ?_
    refine x_icgeN (tgt := 63) (by omega) (by omega) dX3_goesJustAs_21 rfl (fun h21 => ?_) (fun h21 => ?_)
    · exact absurd h21 (by omega)
    · skip
      refine x_aload_n (i := 0) dX3_goesJustAs_24 rfl rfl ?_
      refine x_iload_n (i := 2) dX3_goesJustAs_25 rfl rfl ?_
      refine x_iload_n (i := 3) dX3_goesJustAs_26 rfl rfl ?_
      refine x_iload (i := 4) dX3_goesJustAs_27 rfl ?_
      refine x_iload (i := 7) dX3_goesJustAs_29 rfl ?_
      refine x_pi rfl rfl rfl dX3_goesJustAs_31 okX4_placeOf (Nat.le_of_ble_eq_true rfl) ⟨by decide, by decide⟩ (Nat.le_of_ble_eq_true rfl) (c_X4_placeOf _ _ ?_)
      refine x_iload (i := 5) dX3_goesJustAs_34 rfl ?_
      refine x_v4i dX3_goesJustAs_36 okX3_nextPace ml_X3_60 (sT0 hT) rfl (Nat.le_of_ble_eq_true rfl) ⟨by decide, by decide⟩ (Nat.le_of_ble_eq_true rfl) (c_X3_nextPace hT hw _ _ _ (by omega) ?_)
      refine y_istore (i := 5) (ls2 := [_, _, _, _, _, _, _, _]) dX3_goesJustAs_39 (by decide) rfl rfl ?_
      refine x_aload_n (i := 1) dX3_goesJustAs_41 rfl rfl ?_
      refine x_getr (i := 2) dX3_goesJustAs_42 (sS0 hj) rfl rfl (by decide) fl_X3_81 inX1 ?_
      refine x_iload (i := 7) dX3_goesJustAs_45 rfl ?_
      refine x_laldE dX3_goesJustAs_47 (sS1 hj) (by omega) (by decide) (hs.2.2.1 i (by omega)) ?_
      refine x_iload (i := 5) dX3_goesJustAs_48 rfl ?_
      refine x_i2l dX3_goesJustAs_50 ?_
      refine x_lcmp dX3_goesJustAs_51 ?_
      refine x_ifeq (tgt := 57) dX3_goesJustAs_52 rfl (fun h52 => ?_) (fun h52 => ?_)
      · skip
        refine y_iincN (i := 7) (ls2 := [_, _, _, _, _, _, _, _]) dX3_goesJustAs_57 rfl (by decide) rfl rfl ?_
        refine x_goto (tgt := 17) dX3_goesJustAs_60 rfl ?_
        exact ih (i + 1) _ (by omega) rfl (by rw [gJ, eg, Bool.true_and]; exact decide_eq_true (lcmp0 h52))
      · skip
        refine x_iconstN (n := 0) dX3_goesJustAs_55 ?_
        exact x_iretz dX3_goesJustAs_56 rfl (by decide) (by rw [xb_f (show ¬ gJ T f k w r (min z 20) = true by rw [gJ_f T f k w r (i := i + 1) (by rw [gJ, eg, Bool.true_and]; exact decide_eq_false (lcmpN h52)) (min z 20) (by omega)]; decide)] at hk; exact hk)
set_option maxHeartbeats 4000000 in
set_option maxRecDepth 20000 in
theorem c_X3_goesJustAs {σ : xH} {K : Int32 → xH → Prop} {t : Nat} {T : Tw} (hT : isT t) (hw : tw σ t T) {j z : Nat} {b : Int32} {f : Nat → Int64} (hj : j < 4) (hs : sh σ j b z f) (k w : Int32) {r : Nat} (hr : r < 3) (hk : K (xb (gJ T f k w r (min z 20) = true)) σ) : Evi l (oC ad D cy) mX3_goesJustAs [.ref t, .ref (22 + 2 * j), .int k, .int w, .int (nI r)] σ K := by
  refine x_enter (ls := [some (.ref t), some (.ref (22 + 2 * j)), some (.int k), some (.int w), some (.int (nI r)), none, none, none]) rfl ?_
  have hz := hs.2.2.2
  refine x_iload_n (i := 3) dX3_goesJustAs_0 rfl rfl ?_
  refine y_istore (i := 5) (ls2 := [_, _, _, _, _, _, _, _]) dX3_goesJustAs_1 (by decide) rfl rfl ?_
  refine x_aload_n (i := 1) dX3_goesJustAs_3 rfl rfl ?_
  refine x_getiE (i := 1) dX3_goesJustAs_4 (sS0 hj) rfl rfl (by decide) fl_X3_73 inX1 hs.2.1 ?_
  refine x_bipush (v := nI 20) dX3_goesJustAs_7 (by decide) ?_
  refine x_min dX3_goesJustAs_9 ml_X3_78 sm_J9_min_7cf53 in_J9 co_J9_min_7cf53 (by decide) (Nat.le_of_ble_eq_true rfl) ?_
  refine x_top (mn20 (by omega)) ?_
  refine y_istore (i := 6) (ls2 := [_, _, _, _, _, _, _, _]) dX3_goesJustAs_12 (by decide) rfl rfl ?_
  refine x_iconstN (n := 0) dX3_goesJustAs_14 ?_
  refine y_istore (i := 7) (ls2 := [_, _, _, _, _, _, _, _]) dX3_goesJustAs_15 (by decide) rfl rfl ?_
  exact l_X3_goesJustAs hT hw hj hs k w hr hk (min z 20) 0 _ (by omega) rfl rfl
set_option maxHeartbeats 4000000 in
set_option maxRecDepth 20000 in
theorem l_X4_lays {K : Int32 → xH → Prop} {σ0 : xH} {S : St} (hS : cS σ0 S) {j r : Nat} (hj : j < 4) (hr : r < 3) (hk : ∀ τ, cS τ (pT S (lyS (gT S) (gN S j) r (min (gZ S j) 20)).1) → K (lyS (gT S) (gN S j) r (min (gZ S j) 20)).2 τ) : ∀ (n i : Nat) (σ : xH) (c : Int32), i + n = min (gZ S j) 20 → (c = (lyS (gT S) (gN S j) r i).2) → (tw σ 1 (lyS (gT S) (gN S j) r i).1) → (fr 1 σ0 σ) → Ex l (oC ad D cy) mX4_lays 52 [some (.ref 0), some (.int (nI j)), some (.int (nI r)), some (.int (nI 0)), some (.int c), some (.int (nI (min (gZ S j) 20))), some (.int (nI i)), none, none] [] σ (xQi K) := by
  intro n
  induction n with
  | zero =>
    intro i σ c hi ec hw hf
    have hi : i = min (gZ S j) 20 := by omega
    subst hi
    have hz := (hS.2.2.2.2.2.2.1 j hj).2.2.2
    refine x_iload (i := 6) dX4_lays_52 rfl ?_
    refine x_iload (i := 5) dX4_lays_54 rfl ?_
    refine x_icgeN (tgt := 111) (by omega) (by omega) dX4_lays_56 rfl (fun h56 => ?_) (fun h56 => ?_)
    · skip
      refine x_iload (i := 4) dX4_lays_111 rfl ?_
      exact x_ireti dX4_lays_113 rfl (ec ▸ hk σ (cS_1 hS hf hw))
    · exact absurd h56 (by omega)
  | succ n ih =>
    intro i σ c hi ec hw hf
    have hz := (hS.2.2.2.2.2.2.1 j hj).2.2.2
    have hs := (cS_1 hS hf hw).2.2.2.2.2.2.1 j hj
    subst ec
    refine x_iload (i := 6) dX4_lays_52 rfl ?_
    refine x_iload (i := 5) dX4_lays_54 rfl ?_
    refine x_icgeN (tgt := 111) (by omega) (by omega) dX4_lays_56 rfl (fun h56 => ?_) (fun h56 => ?_)
    · exact absurd h56 (by omega)
    · skip
      refine x_aload_n (i := 0) dX4_lays_59 rfl rfl ?_
      refine x_getr (i := 4) dX4_lays_60 rfl rfl rfl (by decide) fl_X4_31 inX4 ?_
      refine x_iload_n (i := 1) dX4_lays_63 rfl rfl ?_
      refine x_aaldN rfl dX4_lays_64 rfl (by omega) (by decide) ?_
      refine x_getr (i := 2) dX4_lays_65 (sS0 hj) rfl rfl (by decide) fl_X4_192 inX1 ?_
      refine x_iload (i := 6) dX4_lays_68 rfl ?_
      refine x_laldE dX4_lays_70 (sS1 hj) (by omega) (by decide) (hs.2.2.1 i (by omega)) ?_
      refine x_lstore (i := 7) (ls2 := [_, _, _, _, _, _, _, _, _]) dX4_lays_71 (by decide) rfl ?_
      refine x_lload (i := 7) dX4_lays_73 rfl ?_
      refine x_lconst (v := 0) dX4_lays_75 (by decide) ?_
      refine x_lcmp dX4_lays_76 ?_
      refine x_iflt (tgt := 105) dX4_lays_77 rfl (fun h77 => ?_) (fun h77 => ?_)
      · skip
        refine y_iincN (i := 6) (ls2 := [_, _, _, _, _, _, _, _, _]) dX4_lays_105 rfl (by decide) rfl rfl ?_
        refine x_goto (tgt := 52) dX4_lays_108 rfl ?_
        exact x_mask [true, true, true, true, true, true, true, false, false] <| ih (i + 1) _ _ (by omega) (by rw [lyS, if_neg (fun z => z.1 h77)]) (by rw [lyS, if_neg (fun z => z.1 h77)]; exact hw) hf
      · skip
        refine x_lload (i := 7) dX4_lays_80 rfl ?_
        refine x_ldc2 (v := 4) dX4_lays_82 kl_X4_218 ?_
        refine x_lcmp dX4_lays_85 ?_
        refine x_ifgt (tgt := 105) dX4_lays_86 rfl (fun h86 => ?_) (fun h86 => ?_)
        · skip
          refine y_iincN (i := 6) (ls2 := [_, _, _, _, _, _, _, _, _]) dX4_lays_105 rfl (by decide) rfl rfl ?_
          refine x_goto (tgt := 52) dX4_lays_108 rfl ?_
          exact x_mask [true, true, true, true, true, true, true, false, false] <| ih (i + 1) _ _ (by omega) (by rw [lyS, if_neg (fun z => z.2 h86)]) (by rw [lyS, if_neg (fun z => z.2 h86)]; exact hw) hf
        · skip
          refine x_aload_n (i := 0) dX4_lays_89 rfl rfl ?_
          refine x_getr (i := 0) dX4_lays_90 rfl rfl rfl (by decide) fl_X4_10 inX4 ?_
          refine x_iload_n (i := 2) dX4_lays_93 rfl rfl ?_
          refine x_iload (i := 6) dX4_lays_94 rfl ?_
          refine x_lload (i := 7) dX4_lays_96 rfl ?_
          refine x_l2i dX4_lays_98 ?_
          refine x_v3v dX4_lays_99 okX3_lay ml_X4_64 (sT0 isT1) rfl (Nat.le_of_ble_eq_true rfl) ⟨by decide, by decide⟩ (Nat.le_of_ble_eq_true rfl) (c_X3_lay isT1 hw hr (by omega) _ (fun τ hw1 hf1 => ?_))
          refine y_iinc (i := 4) (ls2 := [_, _, _, _, _, _, _, _, _]) dX4_lays_102 rfl rfl (by decide) rfl rfl ?_
          refine y_iincN (i := 6) (ls2 := [_, _, _, _, _, _, _, _, _]) dX4_lays_105 rfl (by decide) rfl rfl ?_
          refine x_goto (tgt := 52) dX4_lays_108 rfl ?_
          exact x_mask [true, true, true, true, true, true, true, false, false] <| ih (i + 1) _ _ (by omega) (by rw [lyS, if_pos ⟨h77, h86⟩]; rfl) (by rw [lyS, if_pos ⟨h77, h86⟩]; exact hw1) (fr_tr hf hf1)
set_option maxHeartbeats 4000000 in
set_option maxRecDepth 20000 in
theorem c_X4_lays {σ : xH} {K : Int32 → xH → Prop} {S : St} (hS : cS σ S)  (s a : Int32) (hk : ∀ τ, cS τ (oLays S s a).2 → K (oLays S s a).1 τ) : Evi l (oC ad D cy) mX4_lays [.ref 0, .int s, .int a] σ K := by
  have hw := hS.1
  have h8 := tw_8 hw
  refine x_enter (ls := [some (.ref 0), some (.int s), some (.int a), none, none, none, none, none, none]) rfl ?_
  by_cases hc : vR (nI 0) (nI 3) s
  · unfold oLays at hk
    rw [if_pos hc] at hk
    obtain ⟨j, -, hj3, rfl⟩ := vR_of hc (by decide) (by decide)
    have hj : j < 4 := by omega
    have h8j : j < 2 ^ 31 := by omega
    simp only [cn, nI_clamp h8j] at hk
    by_cases h1 : gW S j = 0
    · rw [if_pos h1] at hk
      refine x_aload_n (i := 0) dX4_lays_0 rfl rfl ?_
      refine x_iload_n (i := 1) dX4_lays_1 rfl rfl ?_
      refine x_v1i dX4_lays_2 okX4_sheetFault ml_X4_189 rfl rfl (Nat.le_of_ble_eq_true rfl) ⟨by decide, by decide⟩ (Nat.le_of_ble_eq_true rfl) (c_X4_fault5 hS hj h1 ?_)
      refine y_istore_n (i := 3) (ls2 := [_, _, _, _, _, _, _, _, _]) dX4_lays_5 rfl (by decide) rfl rfl ?_
      refine x_iload_n (i := 3) dX4_lays_6 rfl rfl ?_
      refine x_ifeq (tgt := 16) dX4_lays_7 rfl (fun h7 => ?_) (fun h7 => ?_)
      · exact absurd h7 (by decide)
      · skip
        refine x_aload_n (i := 0) dX4_lays_10 rfl rfl ?_
        refine x_iload_n (i := 3) dX4_lays_11 rfl rfl ?_
        refine x_v1i dX4_lays_12 okX4_tell ml_X4_53 rfl rfl (Nat.le_of_ble_eq_true rfl) ⟨by decide, by decide⟩ (Nat.le_of_ble_eq_true rfl) (c_X4_tell hS 5 (by decide) (by decide) (by decide) (fun τ hτ => ?_))
        exact x_ireti dX4_lays_15 rfl (hk τ hτ)
    · rw [if_neg h1] at hk
      have hs := hS.2.2.2.2.2.2.1 j hj
      have hz := hs.2.2.2
      by_cases h2 : vN 3 a
      · rw [if_pos h2] at hk
        obtain ⟨r, hr, rfl⟩ := vN_of h2 (by decide)
        simp only [nI_clamp (show r < 2 ^ 31 by omega)] at hk
        refine x_aload_n (i := 0) dX4_lays_0 rfl rfl ?_
        refine x_iload_n (i := 1) dX4_lays_1 rfl rfl ?_
        refine x_v1i dX4_lays_2 okX4_sheetFault ml_X4_189 rfl rfl (Nat.le_of_ble_eq_true rfl) ⟨by decide, by decide⟩ (Nat.le_of_ble_eq_true rfl) (c_X4_faultN hS hj h1 ?_)
        refine y_istore_n (i := 3) (ls2 := [_, _, _, _, _, _, _, _, _]) dX4_lays_5 rfl (by decide) rfl rfl ?_
        refine x_iload_n (i := 3) dX4_lays_6 rfl rfl ?_
        refine x_ifeq (tgt := 16) dX4_lays_7 rfl (fun h7 => ?_) (fun h7 => ?_)
        · skip
          refine x_iload_n (i := 2) dX4_lays_16 rfl rfl ?_
          refine x_s1i dX4_lays_17 okX4_isStreet ml_X4_75 (Nat.le_of_ble_eq_true rfl) ⟨by decide, by decide⟩ (Nat.le_of_ble_eq_true rfl) (c_X4_isStreet _ ?_)
          refine x_ifneP (tgt := 30) dX4_lays_20 rfl (fun h20 => ?_) (fun h20 => ?_)
          · skip
            refine x_iconstN (n := 0) dX4_lays_30 ?_
            refine y_istore (i := 4) (ls2 := [_, _, _, _, _, _, _, _, _]) dX4_lays_31 (by decide) rfl rfl ?_
            refine x_aload_n (i := 0) dX4_lays_33 rfl rfl ?_
            refine x_getr (i := 4) dX4_lays_34 rfl rfl rfl (by decide) fl_X4_31 inX4 ?_
            refine x_iload_n (i := 1) dX4_lays_37 rfl rfl ?_
            refine x_aaldN rfl dX4_lays_38 rfl (by omega) (by decide) ?_
            refine x_getiE (i := 1) dX4_lays_39 (sS0 hj) rfl rfl (by decide) fl_X4_186 inX1 hs.2.1 ?_
            refine x_bipush (v := nI 20) dX4_lays_42 (by decide) ?_
            refine x_min dX4_lays_44 ml_X4_213 sm_J9_min_7cf53 in_J9 co_J9_min_7cf53 (by decide) (Nat.le_of_ble_eq_true rfl) ?_
            refine x_top (mn20 (by omega)) ?_
            refine y_istore (i := 5) (ls2 := [_, _, _, _, _, _, _, _, _]) dX4_lays_47 (by decide) rfl rfl ?_
            refine x_iconstN (n := 0) dX4_lays_49 ?_
            refine y_istore (i := 6) (ls2 := [_, _, _, _, _, _, _, _, _]) dX4_lays_50 (by decide) rfl rfl ?_
            exact l_X4_lays hS hj hr hk (min (gZ S j) 20) 0 σ _ (by omega) rfl hw (fr_rf 1 σ)
          · exact absurd h2 h20
        · exact absurd h7 (by decide)
      · rw [if_neg h2] at hk
        refine x_aload_n (i := 0) dX4_lays_0 rfl rfl ?_
        refine x_iload_n (i := 1) dX4_lays_1 rfl rfl ?_
        refine x_v1i dX4_lays_2 okX4_sheetFault ml_X4_189 rfl rfl (Nat.le_of_ble_eq_true rfl) ⟨by decide, by decide⟩ (Nat.le_of_ble_eq_true rfl) (c_X4_faultN hS hj h1 ?_)
        refine y_istore_n (i := 3) (ls2 := [_, _, _, _, _, _, _, _, _]) dX4_lays_5 rfl (by decide) rfl rfl ?_
        refine x_iload_n (i := 3) dX4_lays_6 rfl rfl ?_
        refine x_ifeq (tgt := 16) dX4_lays_7 rfl (fun h7 => ?_) (fun h7 => ?_)
        · skip
          refine x_iload_n (i := 2) dX4_lays_16 rfl rfl ?_
          refine x_s1i dX4_lays_17 okX4_isStreet ml_X4_75 (Nat.le_of_ble_eq_true rfl) ⟨by decide, by decide⟩ (Nat.le_of_ble_eq_true rfl) (c_X4_isStreet _ ?_)
          refine x_ifneP (tgt := 30) dX4_lays_20 rfl (fun h20 => ?_) (fun h20 => ?_)
          · exact absurd h20 h2
          · skip
            refine x_aload_n (i := 0) dX4_lays_23 rfl rfl ?_
            refine x_ldc (v := -1000000001) dX4_lays_24 kc_X4_52 ?_
            refine x_v1i dX4_lays_26 okX4_tell ml_X4_53 rfl rfl (Nat.le_of_ble_eq_true rfl) ⟨by decide, by decide⟩ (Nat.le_of_ble_eq_true rfl) (c_X4_tell hS 0 (by decide) (by decide) (by decide) (fun τ hτ => ?_))
            exact x_ireti dX4_lays_29 rfl (hk τ hτ)
        · exact absurd h7 (by decide)
  · unfold oLays at hk
    rw [if_neg hc] at hk
    refine x_aload_n (i := 0) dX4_lays_0 rfl rfl ?_
    refine x_iload_n (i := 1) dX4_lays_1 rfl rfl ?_
    refine x_v1i dX4_lays_2 okX4_sheetFault ml_X4_189 rfl rfl (Nat.le_of_ble_eq_true rfl) ⟨by decide, by decide⟩ (Nat.le_of_ble_eq_true rfl) (c_X4_fault0 hc ?_)
    refine y_istore_n (i := 3) (ls2 := [_, _, _, _, _, _, _, _, _]) dX4_lays_5 rfl (by decide) rfl rfl ?_
    refine x_iload_n (i := 3) dX4_lays_6 rfl rfl ?_
    refine x_ifeq (tgt := 16) dX4_lays_7 rfl (fun h7 => ?_) (fun h7 => ?_)
    · exact absurd h7 (by decide)
    · skip
      refine x_aload_n (i := 0) dX4_lays_10 rfl rfl ?_
      refine x_iload_n (i := 3) dX4_lays_11 rfl rfl ?_
      refine x_v1i dX4_lays_12 okX4_tell ml_X4_53 rfl rfl (Nat.le_of_ble_eq_true rfl) ⟨by decide, by decide⟩ (Nat.le_of_ble_eq_true rfl) (c_X4_tell hS 0 (by decide) (by decide) (by decide) (fun τ hτ => ?_))
      exact x_ireti dX4_lays_15 rfl (hk τ hτ)
set_option maxHeartbeats 4000000 in
set_option maxRecDepth 20000 in
theorem l_X4_book {K : Int32 → xH → Prop} {σ0 : xH} {S : St} (hS : cS σ0 S) {j r d : Nat} (hj : j < 4) (hr : r < 3) (hd : d < tN (gT S)) (hk : ∀ τ, cS τ (pSh S j (gW S j) (gZ S j) (bkF (gN S j) (gW S j) (fun i => pP (gT S) (tKd (gT S) d) (tWs (gT S) d) r (i + 1)) (min (gZ S j) 20))) → K (nI (min (gZ S j) 20)) τ) : ∀ (n i : Nat) (σ : xH), i + n = min (gZ S j) 20 → (sh σ j (gW S j) (gZ S j) (bkF (gN S j) (gW S j) (fun i => pP (gT S) (tKd (gT S) d) (tWs (gT S) d) r (i + 1)) i)) → (frS j σ0 σ) → Ex l (oC ad D cy) mX4_book 63 [some (.ref 0), some (.int (nI j)), some (.int (nI d)), some (.int (nI r)), some (.int (nI 0)), some (.int (nI (min (gZ S j) 20))), some (.int (nI i))] [] σ (xQi K) := by
  intro n
  induction n with
  | zero =>
    intro i σ hi hs hf
    have hi : i = min (gZ S j) 20 := by omega
    subst hi
    have hz := hs.2.2.2
    refine x_iload (i := 6) dX4_book_63 rfl ?_
    refine x_iload (i := 5) dX4_book_65 rfl ?_
    refine x_icgeN (tgt := 116) (by omega) (by omega) dX4_book_67 rfl (fun h67 => ?_) (fun h67 => ?_)
    · skip
      refine x_iload (i := 5) dX4_book_116 rfl ?_
      exact x_ireti dX4_book_118 rfl (hk σ (cS_S hS hj hf hs))
    · exact absurd h67 (by omega)
  | succ n ih =>
    intro i σ hi hs hf
    have hz := hs.2.2.2
    have hw : tw σ 1 (gT S) := (cS_S hS hj hf hs).1
    have h8 := tw_8 hw
    refine x_iload (i := 6) dX4_book_63 rfl ?_
    refine x_iload (i := 5) dX4_book_65 rfl ?_
    refine x_icgeN (tgt := 116) (by omega) (by omega) dX4_book_67 rfl (fun h67 => ?_) (fun h67 => ?_)
    · exact absurd h67 (by omega)
    · skip
      refine x_aload_n (i := 0) dX4_book_70 rfl rfl ?_
      refine x_getr (i := 4) dX4_book_71 rfl rfl rfl (by decide) fl_X4_31 inX4 ?_
      refine x_iload_n (i := 1) dX4_book_74 rfl rfl ?_
      refine x_aaldN rfl dX4_book_75 rfl (by omega) (by decide) ?_
      refine x_iload (i := 6) dX4_book_76 rfl ?_
      refine x_aload_n (i := 0) dX4_book_78 rfl rfl ?_
      refine x_getr (i := 0) dX4_book_79 rfl rfl rfl (by decide) fl_X4_10 inX4 ?_
      refine x_aload_n (i := 0) dX4_book_82 rfl rfl ?_
      refine x_getr (i := 0) dX4_book_83 rfl rfl rfl (by decide) fl_X4_10 inX4 ?_
      refine x_getr (i := 5) dX4_book_86 (sT0 isT1) rfl rfl (by decide) fl_X4_114 inX3 ?_
      refine x_iload_n (i := 2) dX4_book_89 rfl rfl ?_
      refine x_ialdE dX4_book_90 (sT3 isT1) (by omega) (by decide) (tw_kd hw (by omega)) ?_
      refine x_aload_n (i := 0) dX4_book_91 rfl rfl ?_
      refine x_getr (i := 0) dX4_book_92 rfl rfl rfl (by decide) fl_X4_10 inX4 ?_
      refine x_getr (i := 6) dX4_book_95 (sT0 isT1) rfl rfl (by decide) fl_X4_117 inX3 ?_
      refine x_iload_n (i := 2) dX4_book_98 rfl rfl ?_
      refine x_ialdE dX4_book_99 (sT4 isT1) (by omega) (by decide) (tw_ws hw (by omega)) ?_
      refine x_iload_n (i := 3) dX4_book_100 rfl rfl ?_
      refine x_iload (i := 6) dX4_book_101 rfl ?_
      refine x_v4i dX4_book_103 okX3_paceOn ml_X4_143 (sT0 isT1) rfl (Nat.le_of_ble_eq_true rfl) ⟨by decide, by decide⟩ (Nat.le_of_ble_eq_true rfl) (c_X3_paceOn isT1 hw _ _ hr (by omega) ?_)
      refine x_i2l dX4_book_106 ?_
      refine x_v2v dX4_book_107 okX1_put ml_X4_196 (sS0 hj) rfl (Nat.le_of_ble_eq_true rfl) ⟨by decide, by decide⟩ (Nat.le_of_ble_eq_true rfl) (c_X1_put hj hs (by omega) _ (fun τ hs1 hf1 => ?_))
      refine y_iincN (i := 6) (ls2 := [_, _, _, _, _, _, _]) dX4_book_110 rfl (by decide) rfl rfl ?_
      refine x_goto (tgt := 63) dX4_book_113 rfl ?_
      exact ih (i + 1) τ (by omega) hs1 (frS_tr hf hf1)
set_option maxHeartbeats 4000000 in
set_option maxRecDepth 20000 in
theorem c_X4_book {σ : xH} {K : Int32 → xH → Prop} {S : St} (hS : cS σ S)  (s d a : Int32) (hk : ∀ τ, cS τ (oBook S s d a).2 → K (oBook S s d a).1 τ) : Evi l (oC ad D cy) mX4_book [.ref 0, .int s, .int d, .int a] σ K := by
  have hw := hS.1
  have h8 := tw_8 hw
  refine x_enter (ls := [some (.ref 0), some (.int s), some (.int d), some (.int a), none, none, none]) rfl ?_
  by_cases hc : vR (nI 0) (nI 3) s
  · unfold oBook at hk
    rw [if_pos hc] at hk
    obtain ⟨j, -, hj3, rfl⟩ := vR_of hc (by decide) (by decide)
    have hj : j < 4 := by omega
    have h8j : j < 2 ^ 31 := by omega
    simp only [cn, nI_clamp h8j] at hk
    by_cases h1 : gW S j = 0
    · rw [if_pos h1] at hk
      refine x_aload_n (i := 0) dX4_book_0 rfl rfl ?_
      refine x_iload_n (i := 1) dX4_book_1 rfl rfl ?_
      refine x_v1i dX4_book_2 okX4_sheetFault ml_X4_189 rfl rfl (Nat.le_of_ble_eq_true rfl) ⟨by decide, by decide⟩ (Nat.le_of_ble_eq_true rfl) (c_X4_fault5 hS hj h1 ?_)
      refine y_istore (i := 4) (ls2 := [_, _, _, _, _, _, _]) dX4_book_5 (by decide) rfl rfl ?_
      refine x_iload (i := 4) dX4_book_7 rfl ?_
      refine x_ifeq (tgt := 19) dX4_book_9 rfl (fun h9 => ?_) (fun h9 => ?_)
      · exact absurd h9 (by decide)
      · skip
        refine x_aload_n (i := 0) dX4_book_12 rfl rfl ?_
        refine x_iload (i := 4) dX4_book_13 rfl ?_
        refine x_v1i dX4_book_15 okX4_tell ml_X4_53 rfl rfl (Nat.le_of_ble_eq_true rfl) ⟨by decide, by decide⟩ (Nat.le_of_ble_eq_true rfl) (c_X4_tell hS 5 (by decide) (by decide) (by decide) (fun τ hτ => ?_))
        exact x_ireti dX4_book_18 rfl (hk τ hτ)
    · rw [if_neg h1] at hk
      have hs := hS.2.2.2.2.2.2.1 j hj
      have hz := hs.2.2.2
      by_cases h2 : vN (tN (gT S)) d ∧ vN 3 a
      · rw [if_pos h2] at hk
        obtain ⟨d, hd, rfl⟩ := vN_of h2.1 (by omega)
        have h8d : d < 2 ^ 31 := by omega
        obtain ⟨r, hr, rfl⟩ := vN_of h2.2 (by decide)
        simp only [nI_clamp h8d, nI_clamp (show r < 2 ^ 31 by omega)] at hk
        refine x_aload_n (i := 0) dX4_book_0 rfl rfl ?_
        refine x_iload_n (i := 1) dX4_book_1 rfl rfl ?_
        refine x_v1i dX4_book_2 okX4_sheetFault ml_X4_189 rfl rfl (Nat.le_of_ble_eq_true rfl) ⟨by decide, by decide⟩ (Nat.le_of_ble_eq_true rfl) (c_X4_faultN hS hj h1 ?_)
        refine y_istore (i := 4) (ls2 := [_, _, _, _, _, _, _]) dX4_book_5 (by decide) rfl rfl ?_
        refine x_iload (i := 4) dX4_book_7 rfl ?_
        refine x_ifeq (tgt := 19) dX4_book_9 rfl (fun h9 => ?_) (fun h9 => ?_)
        · skip
          refine x_aload_n (i := 0) dX4_book_19 rfl rfl ?_
          refine x_getr (i := 0) dX4_book_20 rfl rfl rfl (by decide) fl_X4_10 inX4 ?_
          refine x_iload_n (i := 2) dX4_book_23 rfl rfl ?_
          refine x_v1i dX4_book_24 okX3_hasDriver ml_X4_111 (sT0 isT1) rfl (Nat.le_of_ble_eq_true rfl) ⟨by decide, by decide⟩ (Nat.le_of_ble_eq_true rfl) (c_X3_hasDriver isT1 hw _ ?_)
          refine x_ifeqP (tgt := 37) dX4_book_27 rfl (fun h27 => ?_) (fun h27 => ?_)
          · exact absurd h2.1 h27
          · skip
            refine x_iload_n (i := 3) dX4_book_30 rfl rfl ?_
            refine x_s1i dX4_book_31 okX4_isStreet ml_X4_75 (Nat.le_of_ble_eq_true rfl) ⟨by decide, by decide⟩ (Nat.le_of_ble_eq_true rfl) (c_X4_isStreet _ ?_)
            refine x_ifneP (tgt := 44) dX4_book_34 rfl (fun h34 => ?_) (fun h34 => ?_)
            · skip
              refine x_aload_n (i := 0) dX4_book_44 rfl rfl ?_
              refine x_getr (i := 4) dX4_book_45 rfl rfl rfl (by decide) fl_X4_31 inX4 ?_
              refine x_iload_n (i := 1) dX4_book_48 rfl rfl ?_
              refine x_aaldN rfl dX4_book_49 rfl (by omega) (by decide) ?_
              refine x_getiE (i := 1) dX4_book_50 (sS0 hj) rfl rfl (by decide) fl_X4_186 inX1 hs.2.1 ?_
              refine x_bipush (v := nI 20) dX4_book_53 (by decide) ?_
              refine x_min dX4_book_55 ml_X4_213 sm_J9_min_7cf53 in_J9 co_J9_min_7cf53 (by decide) (Nat.le_of_ble_eq_true rfl) ?_
              refine x_top (mn20 (by omega)) ?_
              refine y_istore (i := 5) (ls2 := [_, _, _, _, _, _, _]) dX4_book_58 (by decide) rfl rfl ?_
              refine x_iconstN (n := 0) dX4_book_60 ?_
              refine y_istore (i := 6) (ls2 := [_, _, _, _, _, _, _]) dX4_book_61 (by decide) rfl rfl ?_
              exact l_X4_book hS hj hr hd hk (min (gZ S j) 20) 0 σ (by omega) hs (frS_rf j σ)
            · exact absurd h2.2 h34
        · exact absurd h9 (by decide)
      · rw [if_neg h2] at hk
        refine x_aload_n (i := 0) dX4_book_0 rfl rfl ?_
        refine x_iload_n (i := 1) dX4_book_1 rfl rfl ?_
        refine x_v1i dX4_book_2 okX4_sheetFault ml_X4_189 rfl rfl (Nat.le_of_ble_eq_true rfl) ⟨by decide, by decide⟩ (Nat.le_of_ble_eq_true rfl) (c_X4_faultN hS hj h1 ?_)
        refine y_istore (i := 4) (ls2 := [_, _, _, _, _, _, _]) dX4_book_5 (by decide) rfl rfl ?_
        refine x_iload (i := 4) dX4_book_7 rfl ?_
        refine x_ifeq (tgt := 19) dX4_book_9 rfl (fun h9 => ?_) (fun h9 => ?_)
        · skip
          refine x_aload_n (i := 0) dX4_book_19 rfl rfl ?_
          refine x_getr (i := 0) dX4_book_20 rfl rfl rfl (by decide) fl_X4_10 inX4 ?_
          refine x_iload_n (i := 2) dX4_book_23 rfl rfl ?_
          refine x_v1i dX4_book_24 okX3_hasDriver ml_X4_111 (sT0 isT1) rfl (Nat.le_of_ble_eq_true rfl) ⟨by decide, by decide⟩ (Nat.le_of_ble_eq_true rfl) (c_X3_hasDriver isT1 hw _ ?_)
          refine x_ifeqP (tgt := 37) dX4_book_27 rfl (fun h27 => ?_) (fun h27 => ?_)
          · skip
            refine x_aload_n (i := 0) dX4_book_37 rfl rfl ?_
            refine x_ldc (v := -1000000001) dX4_book_38 kc_X4_52 ?_
            refine x_v1i dX4_book_40 okX4_tell ml_X4_53 rfl rfl (Nat.le_of_ble_eq_true rfl) ⟨by decide, by decide⟩ (Nat.le_of_ble_eq_true rfl) (c_X4_tell hS 0 (by decide) (by decide) (by decide) (fun τ hτ => ?_))
            exact x_ireti dX4_book_43 rfl (hk τ hτ)
          · skip
            refine x_iload_n (i := 3) dX4_book_30 rfl rfl ?_
            refine x_s1i dX4_book_31 okX4_isStreet ml_X4_75 (Nat.le_of_ble_eq_true rfl) ⟨by decide, by decide⟩ (Nat.le_of_ble_eq_true rfl) (c_X4_isStreet _ ?_)
            refine x_ifneP (tgt := 44) dX4_book_34 rfl (fun h34 => ?_) (fun h34 => ?_)
            · exact absurd ⟨h27, h34⟩ h2
            · skip
              refine x_aload_n (i := 0) dX4_book_37 rfl rfl ?_
              refine x_ldc (v := -1000000001) dX4_book_38 kc_X4_52 ?_
              refine x_v1i dX4_book_40 okX4_tell ml_X4_53 rfl rfl (Nat.le_of_ble_eq_true rfl) ⟨by decide, by decide⟩ (Nat.le_of_ble_eq_true rfl) (c_X4_tell hS 0 (by decide) (by decide) (by decide) (fun τ hτ => ?_))
              exact x_ireti dX4_book_43 rfl (hk τ hτ)
        · exact absurd h9 (by decide)
  · unfold oBook at hk
    rw [if_neg hc] at hk
    refine x_aload_n (i := 0) dX4_book_0 rfl rfl ?_
    refine x_iload_n (i := 1) dX4_book_1 rfl rfl ?_
    refine x_v1i dX4_book_2 okX4_sheetFault ml_X4_189 rfl rfl (Nat.le_of_ble_eq_true rfl) ⟨by decide, by decide⟩ (Nat.le_of_ble_eq_true rfl) (c_X4_fault0 hc ?_)
    refine y_istore (i := 4) (ls2 := [_, _, _, _, _, _, _]) dX4_book_5 (by decide) rfl rfl ?_
    refine x_iload (i := 4) dX4_book_7 rfl ?_
    refine x_ifeq (tgt := 19) dX4_book_9 rfl (fun h9 => ?_) (fun h9 => ?_)
    · exact absurd h9 (by decide)
    · skip
      refine x_aload_n (i := 0) dX4_book_12 rfl rfl ?_
      refine x_iload (i := 4) dX4_book_13 rfl ?_
      refine x_v1i dX4_book_15 okX4_tell ml_X4_53 rfl rfl (Nat.le_of_ble_eq_true rfl) ⟨by decide, by decide⟩ (Nat.le_of_ble_eq_true rfl) (c_X4_tell hS 0 (by decide) (by decide) (by decide) (fun τ hτ => ?_))
      exact x_ireti dX4_book_18 rfl (hk τ hτ)
set_option maxHeartbeats 4000000 in
set_option maxRecDepth 20000 in
theorem l_X4_readI {K : Int32 → xH → Prop} {σ : xH} {S : St} (hS : cS σ S) {j r d : Nat} (hj : j < 4) (hr : r < 3) (x y : Int32) {k : Nat} (hk6 : k < 6) (c0 : Int32) (hk : Ex l (oC ad D cy) mX4_read 71 [some (.ref 0), some (.int (nI j)), some (.int x), some (.int (nI r)), some (.int y), some (.int (rdI (gT S) (gN S j) (min (gZ S j) 20) r k c0 71)), some (.int (nI (k + 1))), none] [] σ (xQi K)) : ∀ (n i : Nat) (c : Int32), i + n = 71 → (c = rdI (gT S) (gN S j) (min (gZ S j) 20) r k c0 i) → Ex l (oC ad D cy) mX4_read 82 [some (.ref 0), some (.int (nI j)), some (.int x), some (.int (nI r)), some (.int y), some (.int c), some (.int (nI k)), some (.int (nI (10 + i)))] [] σ (xQi K) := by
  intro n
  induction n with
  | zero =>
    intro i c hi ec
    have hi : i = 71 := by omega
    subst hi
    subst ec
    refine x_iload (i := 7) dX4_read_82 rfl ?_
    refine x_bipush (v := nI 80) dX4_read_84 (by decide) ?_
    refine x_icgtN (tgt := 119) (by omega) (by omega) dX4_read_86 rfl (fun h86 => ?_) (fun h86 => ?_)
    · skip
      refine y_iincN (i := 6) (ls2 := [_, _, _, _, _, _, _, _]) dX4_read_119 rfl (by decide) rfl rfl ?_
      refine x_goto (tgt := 71) dX4_read_122 rfl ?_
      exact x_mask [true, true, true, true, true, true, true, false] hk
    · exact absurd h86 (by omega)
  | succ n ih =>
    intro i c hi ec
    subst ec
    have hw := hS.1
    refine x_iload (i := 7) dX4_read_82 rfl ?_
    refine x_bipush (v := nI 80) dX4_read_84 (by decide) ?_
    refine x_icgtN (tgt := 119) (by omega) (by omega) dX4_read_86 rfl (fun h86 => ?_) (fun h86 => ?_)
    · exact absurd h86 (by omega)
    · skip
      refine x_aload_n (i := 0) dX4_read_89 rfl rfl ?_
      refine x_getr (i := 0) dX4_read_90 rfl rfl rfl (by decide) fl_X4_10 inX4 ?_
      refine x_aload_n (i := 0) dX4_read_93 rfl rfl ?_
      refine x_getr (i := 4) dX4_read_94 rfl rfl rfl (by decide) fl_X4_31 inX4 ?_
      refine x_iload_n (i := 1) dX4_read_97 rfl rfl ?_
      refine x_aaldN rfl dX4_read_98 rfl (by omega) (by decide) ?_
      refine x_iload (i := 6) dX4_read_99 rfl ?_
      refine x_iload (i := 7) dX4_read_101 rfl ?_
      refine x_iload_n (i := 3) dX4_read_103 rfl rfl ?_
      refine x_v4i dX4_read_104 okX3_goesJustAs ml_X4_220 (sT0 isT1) rfl (Nat.le_of_ble_eq_true rfl) ⟨by decide, by decide⟩ (Nat.le_of_ble_eq_true rfl) (c_X3_goesJustAs isT1 hw hj (hS.2.2.2.2.2.2.1 j hj) _ _ hr ?_)
      refine x_ifeqP (tgt := 113) dX4_read_107 rfl (fun h107 => ?_) (fun h107 => ?_)
      · skip
        refine y_iincN (i := 7) (ls2 := [_, _, _, _, _, _, _, _]) dX4_read_113 rfl (by decide) rfl rfl ?_
        refine x_goto (tgt := 82) dX4_read_116 rfl ?_
        exact ih (i + 1) _ (by omega) (by rw [rdI]; first | exact (if_pos h107).symm | exact (if_neg h107).symm)
      · skip
        refine y_iinc (i := 5) (ls2 := [_, _, _, _, _, _, _, _]) dX4_read_110 rfl rfl (by decide) rfl rfl ?_
        refine y_iincN (i := 7) (ls2 := [_, _, _, _, _, _, _, _]) dX4_read_113 rfl (by decide) rfl rfl ?_
        refine x_goto (tgt := 82) dX4_read_116 rfl ?_
        exact ih (i + 1) _ (by omega) (by rw [rdI]; first | exact (if_pos h107).symm | exact (if_neg h107).symm)
set_option maxHeartbeats 4000000 in
set_option maxRecDepth 20000 in
theorem l_X4_readO {K : Int32 → xH → Prop} {σ : xH} {S : St} (hS : cS σ S) {j r d : Nat} (hj : j < 4) (hr : r < 3) (x y : Int32) (hk : ∀ τ, cS τ S → K (rdO (gT S) (gN S j) (min (gZ S j) 20) r 6) τ) : ∀ (n i : Nat) (c : Int32), i + n = 6 → (c = rdO (gT S) (gN S j) (min (gZ S j) 20) r i) → Ex l (oC ad D cy) mX4_read 71 [some (.ref 0), some (.int (nI j)), some (.int x), some (.int (nI r)), some (.int y), some (.int c), some (.int (nI i)), none] [] σ (xQi K) := by
  intro n
  induction n with
  | zero =>
    intro i c hi ec
    have hi : i = 6 := by omega
    subst hi
    refine x_iload (i := 6) dX4_read_71 rfl ?_
    refine x_bipush (v := nI 6) dX4_read_73 (by decide) ?_
    refine x_icgeN (tgt := 125) (by omega) (by omega) dX4_read_75 rfl (fun h75 => ?_) (fun h75 => ?_)
    · skip
      refine x_iload (i := 5) dX4_read_125 rfl ?_
      exact x_ireti dX4_read_127 rfl (ec ▸ hk σ hS)
    · exact absurd h75 (by omega)
  | succ n ih =>
    intro i c hi ec
    refine x_iload (i := 6) dX4_read_71 rfl ?_
    refine x_bipush (v := nI 6) dX4_read_73 (by decide) ?_
    refine x_icgeN (tgt := 125) (by omega) (by omega) dX4_read_75 rfl (fun h75 => ?_) (fun h75 => ?_)
    · exact absurd h75 (by omega)
    · skip
      refine x_bipush (v := nI 10) dX4_read_78 (by decide) ?_
      refine y_istore (i := 7) (ls2 := [_, _, _, _, _, _, _, _]) dX4_read_80 (by decide) rfl rfl ?_
      exact l_X4_readI hS (d := d) hj hr x y (by omega) c (ih (i + 1) _ (by omega) (by rw [ec]; rfl)) 71 0 _ rfl rfl
set_option maxHeartbeats 4000000 in
set_option maxRecDepth 20000 in
theorem c_X4_read {σ : xH} {K : Int32 → xH → Prop} {S : St} (hS : cS σ S)  (s d a : Int32) (hk : ∀ τ, cS τ (oRead S s d a).2 → K (oRead S s d a).1 τ) : Evi l (oC ad D cy) mX4_read [.ref 0, .int s, .int d, .int a] σ K := by
  have hw := hS.1
  have h8 := tw_8 hw
  refine x_enter (ls := [some (.ref 0), some (.int s), some (.int d), some (.int a), none, none, none, none]) rfl ?_
  by_cases hc : vR (nI 0) (nI 3) s
  · unfold oRead at hk
    rw [if_pos hc] at hk
    obtain ⟨j, -, hj3, rfl⟩ := vR_of hc (by decide) (by decide)
    have hj : j < 4 := by omega
    have h8j : j < 2 ^ 31 := by omega
    simp only [cn, nI_clamp h8j] at hk
    by_cases h1 : gW S j = 0
    · rw [if_pos h1] at hk
      refine x_aload_n (i := 0) dX4_read_0 rfl rfl ?_
      refine x_iload_n (i := 1) dX4_read_1 rfl rfl ?_
      refine x_v1i dX4_read_2 okX4_sheetFault ml_X4_189 rfl rfl (Nat.le_of_ble_eq_true rfl) ⟨by decide, by decide⟩ (Nat.le_of_ble_eq_true rfl) (c_X4_fault5 hS hj h1 ?_)
      refine y_istore (i := 4) (ls2 := [_, _, _, _, _, _, _, _]) dX4_read_5 (by decide) rfl rfl ?_
      refine x_iload (i := 4) dX4_read_7 rfl ?_
      refine x_ifeq (tgt := 19) dX4_read_9 rfl (fun h9 => ?_) (fun h9 => ?_)
      · exact absurd h9 (by decide)
      · skip
        refine x_aload_n (i := 0) dX4_read_12 rfl rfl ?_
        refine x_iload (i := 4) dX4_read_13 rfl ?_
        refine x_v1i dX4_read_15 okX4_tell ml_X4_53 rfl rfl (Nat.le_of_ble_eq_true rfl) ⟨by decide, by decide⟩ (Nat.le_of_ble_eq_true rfl) (c_X4_tell hS 5 (by decide) (by decide) (by decide) (fun τ hτ => ?_))
        exact x_ireti dX4_read_18 rfl (hk τ hτ)
    · rw [if_neg h1] at hk
      have hs := hS.2.2.2.2.2.2.1 j hj
      have hz := hs.2.2.2
      by_cases h2 : vN (tN (gT S)) d ∧ vN 3 a
      · rw [if_pos h2] at hk
        obtain ⟨d, hd, rfl⟩ := vN_of h2.1 (by omega)
        have h8d : d < 2 ^ 31 := by omega
        obtain ⟨r, hr, rfl⟩ := vN_of h2.2 (by decide)
        simp only [nI_clamp h8d, nI_clamp (show r < 2 ^ 31 by omega)] at hk
        by_cases h3 : gZ S j ≤ 20
        · rw [if_pos h3] at hk
          refine x_aload_n (i := 0) dX4_read_0 rfl rfl ?_
          refine x_iload_n (i := 1) dX4_read_1 rfl rfl ?_
          refine x_v1i dX4_read_2 okX4_sheetFault ml_X4_189 rfl rfl (Nat.le_of_ble_eq_true rfl) ⟨by decide, by decide⟩ (Nat.le_of_ble_eq_true rfl) (c_X4_faultN hS hj h1 ?_)
          refine y_istore (i := 4) (ls2 := [_, _, _, _, _, _, _, _]) dX4_read_5 (by decide) rfl rfl ?_
          refine x_iload (i := 4) dX4_read_7 rfl ?_
          refine x_ifeq (tgt := 19) dX4_read_9 rfl (fun h9 => ?_) (fun h9 => ?_)
          · skip
            refine x_aload_n (i := 0) dX4_read_19 rfl rfl ?_
            refine x_getr (i := 0) dX4_read_20 rfl rfl rfl (by decide) fl_X4_10 inX4 ?_
            refine x_iload_n (i := 2) dX4_read_23 rfl rfl ?_
            refine x_v1i dX4_read_24 okX3_hasDriver ml_X4_111 (sT0 isT1) rfl (Nat.le_of_ble_eq_true rfl) ⟨by decide, by decide⟩ (Nat.le_of_ble_eq_true rfl) (c_X3_hasDriver isT1 hw _ ?_)
            refine x_ifeqP (tgt := 37) dX4_read_27 rfl (fun h27 => ?_) (fun h27 => ?_)
            · exact absurd h2.1 h27
            · skip
              refine x_iload_n (i := 3) dX4_read_30 rfl rfl ?_
              refine x_s1i dX4_read_31 okX4_isStreet ml_X4_75 (Nat.le_of_ble_eq_true rfl) ⟨by decide, by decide⟩ (Nat.le_of_ble_eq_true rfl) (c_X4_isStreet _ ?_)
              refine x_ifneP (tgt := 44) dX4_read_34 rfl (fun h34 => ?_) (fun h34 => ?_)
              · skip
                refine x_aload_n (i := 0) dX4_read_44 rfl rfl ?_
                refine x_getr (i := 4) dX4_read_45 rfl rfl rfl (by decide) fl_X4_31 inX4 ?_
                refine x_iload_n (i := 1) dX4_read_48 rfl rfl ?_
                refine x_aaldN rfl dX4_read_49 rfl (by omega) (by decide) ?_
                refine x_getiE (i := 1) dX4_read_50 (sS0 hj) rfl rfl (by decide) fl_X4_186 inX1 hs.2.1 ?_
                refine x_bipush (v := nI 20) dX4_read_53 (by decide) ?_
                refine x_icleN (tgt := 65) (by omega) (by omega) dX4_read_55 rfl (fun h55 => ?_) (fun h55 => ?_)
                · skip
                  refine x_iconstN (n := 0) dX4_read_65 ?_
                  refine y_istore (i := 5) (ls2 := [_, _, _, _, _, _, _, _]) dX4_read_66 (by decide) rfl rfl ?_
                  refine x_iconstN (n := 0) dX4_read_68 ?_
                  refine y_istore (i := 6) (ls2 := [_, _, _, _, _, _, _, _]) dX4_read_69 (by decide) rfl rfl ?_
                  exact l_X4_readO hS (d := d) hj hr _ _ hk 6 0 _ rfl rfl
                · exact absurd h55 (by omega)
              · exact absurd h2.2 h34
          · exact absurd h9 (by decide)
        · rw [if_neg h3] at hk
          refine x_aload_n (i := 0) dX4_read_0 rfl rfl ?_
          refine x_iload_n (i := 1) dX4_read_1 rfl rfl ?_
          refine x_v1i dX4_read_2 okX4_sheetFault ml_X4_189 rfl rfl (Nat.le_of_ble_eq_true rfl) ⟨by decide, by decide⟩ (Nat.le_of_ble_eq_true rfl) (c_X4_faultN hS hj h1 ?_)
          refine y_istore (i := 4) (ls2 := [_, _, _, _, _, _, _, _]) dX4_read_5 (by decide) rfl rfl ?_
          refine x_iload (i := 4) dX4_read_7 rfl ?_
          refine x_ifeq (tgt := 19) dX4_read_9 rfl (fun h9 => ?_) (fun h9 => ?_)
          · skip
            refine x_aload_n (i := 0) dX4_read_19 rfl rfl ?_
            refine x_getr (i := 0) dX4_read_20 rfl rfl rfl (by decide) fl_X4_10 inX4 ?_
            refine x_iload_n (i := 2) dX4_read_23 rfl rfl ?_
            refine x_v1i dX4_read_24 okX3_hasDriver ml_X4_111 (sT0 isT1) rfl (Nat.le_of_ble_eq_true rfl) ⟨by decide, by decide⟩ (Nat.le_of_ble_eq_true rfl) (c_X3_hasDriver isT1 hw _ ?_)
            refine x_ifeqP (tgt := 37) dX4_read_27 rfl (fun h27 => ?_) (fun h27 => ?_)
            · exact absurd h2.1 h27
            · skip
              refine x_iload_n (i := 3) dX4_read_30 rfl rfl ?_
              refine x_s1i dX4_read_31 okX4_isStreet ml_X4_75 (Nat.le_of_ble_eq_true rfl) ⟨by decide, by decide⟩ (Nat.le_of_ble_eq_true rfl) (c_X4_isStreet _ ?_)
              refine x_ifneP (tgt := 44) dX4_read_34 rfl (fun h34 => ?_) (fun h34 => ?_)
              · skip
                refine x_aload_n (i := 0) dX4_read_44 rfl rfl ?_
                refine x_getr (i := 4) dX4_read_45 rfl rfl rfl (by decide) fl_X4_31 inX4 ?_
                refine x_iload_n (i := 1) dX4_read_48 rfl rfl ?_
                refine x_aaldN rfl dX4_read_49 rfl (by omega) (by decide) ?_
                refine x_getiE (i := 1) dX4_read_50 (sS0 hj) rfl rfl (by decide) fl_X4_186 inX1 hs.2.1 ?_
                refine x_bipush (v := nI 20) dX4_read_53 (by decide) ?_
                refine x_icleN (tgt := 65) (by omega) (by omega) dX4_read_55 rfl (fun h55 => ?_) (fun h55 => ?_)
                · exact absurd h55 h3
                · skip
                  refine x_aload_n (i := 0) dX4_read_58 rfl rfl ?_
                  refine x_ldc (v := -1000000007) dX4_read_59 kc_X4_182 ?_
                  refine x_v1i dX4_read_61 okX4_tell ml_X4_53 rfl rfl (Nat.le_of_ble_eq_true rfl) ⟨by decide, by decide⟩ (Nat.le_of_ble_eq_true rfl) (c_X4_tell hS 6 (by decide) (by decide) (by decide) (fun τ hτ => ?_))
                  exact x_ireti dX4_read_64 rfl (hk τ hτ)
              · exact absurd h2.2 h34
          · exact absurd h9 (by decide)
      · rw [if_neg h2] at hk
        refine x_aload_n (i := 0) dX4_read_0 rfl rfl ?_
        refine x_iload_n (i := 1) dX4_read_1 rfl rfl ?_
        refine x_v1i dX4_read_2 okX4_sheetFault ml_X4_189 rfl rfl (Nat.le_of_ble_eq_true rfl) ⟨by decide, by decide⟩ (Nat.le_of_ble_eq_true rfl) (c_X4_faultN hS hj h1 ?_)
        refine y_istore (i := 4) (ls2 := [_, _, _, _, _, _, _, _]) dX4_read_5 (by decide) rfl rfl ?_
        refine x_iload (i := 4) dX4_read_7 rfl ?_
        refine x_ifeq (tgt := 19) dX4_read_9 rfl (fun h9 => ?_) (fun h9 => ?_)
        · skip
          refine x_aload_n (i := 0) dX4_read_19 rfl rfl ?_
          refine x_getr (i := 0) dX4_read_20 rfl rfl rfl (by decide) fl_X4_10 inX4 ?_
          refine x_iload_n (i := 2) dX4_read_23 rfl rfl ?_
          refine x_v1i dX4_read_24 okX3_hasDriver ml_X4_111 (sT0 isT1) rfl (Nat.le_of_ble_eq_true rfl) ⟨by decide, by decide⟩ (Nat.le_of_ble_eq_true rfl) (c_X3_hasDriver isT1 hw _ ?_)
          refine x_ifeqP (tgt := 37) dX4_read_27 rfl (fun h27 => ?_) (fun h27 => ?_)
          · skip
            refine x_aload_n (i := 0) dX4_read_37 rfl rfl ?_
            refine x_ldc (v := -1000000001) dX4_read_38 kc_X4_52 ?_
            refine x_v1i dX4_read_40 okX4_tell ml_X4_53 rfl rfl (Nat.le_of_ble_eq_true rfl) ⟨by decide, by decide⟩ (Nat.le_of_ble_eq_true rfl) (c_X4_tell hS 0 (by decide) (by decide) (by decide) (fun τ hτ => ?_))
            exact x_ireti dX4_read_43 rfl (hk τ hτ)
          · skip
            refine x_iload_n (i := 3) dX4_read_30 rfl rfl ?_
            refine x_s1i dX4_read_31 okX4_isStreet ml_X4_75 (Nat.le_of_ble_eq_true rfl) ⟨by decide, by decide⟩ (Nat.le_of_ble_eq_true rfl) (c_X4_isStreet _ ?_)
            refine x_ifneP (tgt := 44) dX4_read_34 rfl (fun h34 => ?_) (fun h34 => ?_)
            · exact absurd ⟨h27, h34⟩ h2
            · skip
              refine x_aload_n (i := 0) dX4_read_37 rfl rfl ?_
              refine x_ldc (v := -1000000001) dX4_read_38 kc_X4_52 ?_
              refine x_v1i dX4_read_40 okX4_tell ml_X4_53 rfl rfl (Nat.le_of_ble_eq_true rfl) ⟨by decide, by decide⟩ (Nat.le_of_ble_eq_true rfl) (c_X4_tell hS 0 (by decide) (by decide) (by decide) (fun τ hτ => ?_))
              exact x_ireti dX4_read_43 rfl (hk τ hτ)
        · exact absurd h9 (by decide)
  · unfold oRead at hk
    rw [if_neg hc] at hk
    refine x_aload_n (i := 0) dX4_read_0 rfl rfl ?_
    refine x_iload_n (i := 1) dX4_read_1 rfl rfl ?_
    refine x_v1i dX4_read_2 okX4_sheetFault ml_X4_189 rfl rfl (Nat.le_of_ble_eq_true rfl) ⟨by decide, by decide⟩ (Nat.le_of_ble_eq_true rfl) (c_X4_fault0 hc ?_)
    refine y_istore (i := 4) (ls2 := [_, _, _, _, _, _, _, _]) dX4_read_5 (by decide) rfl rfl ?_
    refine x_iload (i := 4) dX4_read_7 rfl ?_
    refine x_ifeq (tgt := 19) dX4_read_9 rfl (fun h9 => ?_) (fun h9 => ?_)
    · exact absurd h9 (by decide)
    · skip
      refine x_aload_n (i := 0) dX4_read_12 rfl rfl ?_
      refine x_iload (i := 4) dX4_read_13 rfl ?_
      refine x_v1i dX4_read_15 okX4_tell ml_X4_53 rfl rfl (Nat.le_of_ble_eq_true rfl) ⟨by decide, by decide⟩ (Nat.le_of_ble_eq_true rfl) (c_X4_tell hS 0 (by decide) (by decide) (by decide) (fun τ hτ => ?_))
      exact x_ireti dX4_read_18 rfl (hk τ hτ)
end
