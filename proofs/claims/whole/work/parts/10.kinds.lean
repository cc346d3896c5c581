section
variable {l : Launch} {ad : Nat → Nat} {D : va_G} {cy : Nat → ClassId}
/-! the kinds, as the class's code tells them -/
def fHur (k : Int32) : Int32 := if k = nI 1 then nI 6 else if k = nI 2 then nI 6 else if k = nI 5 then nI 22 else nI 12
def fBump (k w h : Int32) : Int32 := if k = nI 2 ∧ ¬ h < nI 4 then nI 8 else if nI 5 ≤ w - (if k = nI 1 ∨ k = nI 4 then nI 4 else nI 8) * h then w - (if k = nI 1 ∨ k = nI 4 then nI 4 else nI 8) * h else nI 5
def fPlain (k w t h g : Int32) : Int32 := if t = nI 1 then fBump k w h else if t = nI 2 then (if k = nI 4 then w else w / nI 2) else if t = nI 3 then (if k = nI 3 ∨ k = nI 5 then w else w - nI 5) else if t = nI 4 then (if k = nI 3 ∨ k = nI 5 ∨ ¬ g < nI 21 then w else w * nI 3 / nI 4) else w
def fSlow (k w t h g : Int32) : Int32 := if k = nI 5 then (if w < fPlain k w t h g + nI 5 then w else fPlain k w t h g + nI 5) else fPlain k w t h g
def fShake (k v h : Int32) : Int32 := if k = nI 1 ∨ k = nI 4 then v * h / nI 10 + h else if k = nI 2 then nI 2 * (v * h / nI 10) else if k = nI 5 then v * h / nI 10 + nI 1 else v * h / nI 10
set_option maxHeartbeats 4000000 in
set_option maxRecDepth 20000 in
theorem c_X4_isWithin {σ : xH} {K : Int32 → xH → Prop} (v a b : Int32) (hk : K (xb (¬ v < a ∧ ¬ b < v)) σ) : Evi l (oC ad D cy) mX4_isWithin [.int v, .int a, .int b] σ K := by
  refine x_enter (ls := [some (.int v), some (.int a), some (.int b)]) rfl ?_
  refine x_iload_n (i := 0) dX4_isWithin_0 rfl rfl ?_
  refine x_iload_n (i := 1) dX4_isWithin_1 rfl rfl ?_
  refine x_iclt (tgt := 14) dX4_isWithin_2 rfl (fun h2 => ?_) (fun h2 => ?_)
  · skip
    refine x_iconstN (n := 0) dX4_isWithin_14 ?_
    exact x_iretz dX4_isWithin_15 rfl (by decide) (by simpa (decide := true) [xb, h2] using hk)
  · skip
    refine x_iload_n (i := 0) dX4_isWithin_5 rfl rfl ?_
    refine x_iload_n (i := 2) dX4_isWithin_6 rfl rfl ?_
    refine x_icgt (tgt := 14) dX4_isWithin_7 rfl (fun h7 => ?_) (fun h7 => ?_)
    · skip
      refine x_iconstN (n := 0) dX4_isWithin_14 ?_
      exact x_iretz dX4_isWithin_15 rfl (by decide) (by simpa (decide := true) [xb, h2, h7] using hk)
    · skip
      refine x_iconstN (n := 1) dX4_isWithin_10 ?_
      refine x_goto (tgt := 15) dX4_isWithin_11 rfl ?_
      exact x_iretz dX4_isWithin_15 rfl (by decide) (by simpa (decide := true) [xb, h2, h7] using hk)
set_option maxHeartbeats 4000000 in
set_option maxRecDepth 20000 in
theorem c_X4_isStreet {σ : xH} {K : Int32 → xH → Prop} (v : Int32) (hk : K (xb (¬ v < 0 ∧ ¬ nI 3 ≤ v)) σ) : Evi l (oC ad D cy) mX4_isStreet [.int v] σ K := by
  refine x_enter (ls := [some (.int v)]) rfl ?_
  refine x_iload_n (i := 0) dX4_isStreet_0 rfl rfl ?_
  refine x_iflt (tgt := 13) dX4_isStreet_1 rfl (fun h1 => ?_) (fun h1 => ?_)
  · skip
    refine x_iconstN (n := 0) dX4_isStreet_13 ?_
    exact x_iretz dX4_isStreet_14 rfl (by decide) (by simpa (decide := true) [xb, h1] using hk)
  · skip
    refine x_iload_n (i := 0) dX4_isStreet_4 rfl rfl ?_
    refine x_iconstN (n := 3) dX4_isStreet_5 ?_
    refine x_icge (tgt := 13) dX4_isStreet_6 rfl (fun h6 => ?_) (fun h6 => ?_)
    · skip
      refine x_iconstN (n := 0) dX4_isStreet_13 ?_
      exact x_iretz dX4_isStreet_14 rfl (by decide) (by simpa (decide := true) [xb, h1, h6] using hk)
    · skip
      refine x_iconstN (n := 1) dX4_isStreet_9 ?_
      refine x_goto (tgt := 14) dX4_isStreet_10 rfl ?_
      exact x_iretz dX4_isStreet_14 rfl (by decide) (by simpa (decide := true) [xb, h1, h6] using hk)
set_option maxHeartbeats 4000000 in
set_option maxRecDepth 20000 in
theorem c_X4_isKind {σ : xH} {K : Int32 → xH → Prop} (v : Int32) (hk : K (xb (¬ v < 0 ∧ ¬ nI 6 ≤ v)) σ) : Evi l (oC ad D cy) mX4_isKind [.int v] σ K := by
  refine x_enter (ls := [some (.int v)]) rfl ?_
  refine x_iload_n (i := 0) dX4_isKind_0 rfl rfl ?_
  refine x_iflt (tgt := 14) dX4_isKind_1 rfl (fun h1 => ?_) (fun h1 => ?_)
  · skip
    refine x_iconstN (n := 0) dX4_isKind_14 ?_
    exact x_iretz dX4_isKind_15 rfl (by decide) (by simpa (decide := true) [xb, h1] using hk)
  · skip
    refine x_iload_n (i := 0) dX4_isKind_4 rfl rfl ?_
    refine x_bipush (v := nI 6) dX4_isKind_5 (by decide) ?_
    refine x_icge (tgt := 14) dX4_isKind_7 rfl (fun h7 => ?_) (fun h7 => ?_)
    · skip
      refine x_iconstN (n := 0) dX4_isKind_14 ?_
      exact x_iretz dX4_isKind_15 rfl (by decide) (by simpa (decide := true) [xb, h1, h7] using hk)
    · skip
      refine x_iconstN (n := 1) dX4_isKind_10 ?_
      refine x_goto (tgt := 15) dX4_isKind_11 rfl ?_
      exact x_iretz dX4_isKind_15 rfl (by decide) (by simpa (decide := true) [xb, h1, h7] using hk)
set_option maxHeartbeats 4000000 in
set_option maxRecDepth 20000 in
theorem c_X4_isStretch {σ : xH} {K : Int32 → xH → Prop} (v u : Int32) (hk : K (xb ((¬ v < 0 ∧ ¬ nI 3 ≤ v) ∧ ¬ u < 0 ∧ ¬ nI 20 ≤ u)) σ) : Evi l (oC ad D cy) mX4_isStretch [.int v, .int u] σ K := by
  refine x_enter (ls := [some (.int v), some (.int u)]) rfl ?_
  refine x_iload_n (i := 0) dX4_isStretch_0 rfl rfl ?_
  refine x_s1i dX4_isStretch_1 okX4_isStreet ml_X4_75 (Nat.le_of_ble_eq_true rfl) ⟨by decide, by decide⟩ (Nat.le_of_ble_eq_true rfl) (c_X4_isStreet _ ?_)
  refine x_ifeqP (tgt := 21) dX4_isStretch_4 rfl (fun h4 => ?_) (fun h4 => ?_)
  · skip
    refine x_iconstN (n := 0) dX4_isStretch_21 ?_
    exact x_iretz dX4_isStretch_22 rfl (by decide) (by first | (rw [xb_f (fun z => h4 z.1)] at hk; exact hk) | (simpa (decide := true) [xb, h4] using hk))
  · skip
    refine x_iload_n (i := 1) dX4_isStretch_7 rfl rfl ?_
    refine x_iflt (tgt := 21) dX4_isStretch_8 rfl (fun h8 => ?_) (fun h8 => ?_)
    · skip
      refine x_iconstN (n := 0) dX4_isStretch_21 ?_
      exact x_iretz dX4_isStretch_22 rfl (by decide) (by first | (rw [xb_f (fun z => h4 z.1)] at hk; exact hk) | (simpa (decide := true) [xb, h4, h8] using hk))
    · skip
      refine x_iload_n (i := 1) dX4_isStretch_11 rfl rfl ?_
      refine x_bipush (v := nI 20) dX4_isStretch_12 (by decide) ?_
      refine x_icge (tgt := 21) dX4_isStretch_14 rfl (fun h14 => ?_) (fun h14 => ?_)
      · skip
        refine x_iconstN (n := 0) dX4_isStretch_21 ?_
        exact x_iretz dX4_isStretch_22 rfl (by decide) (by first | (rw [xb_f (fun z => h4 z.1)] at hk; exact hk) | (simpa (decide := true) [xb, h4, h8, h14] using hk))
      · skip
        refine x_iconstN (n := 1) dX4_isStretch_17 ?_
        refine x_goto (tgt := 22) dX4_isStretch_18 rfl ?_
        exact x_iretz dX4_isStretch_22 rfl (by decide) (by first | (rw [xb_f (fun z => h4 z.1)] at hk; exact hk) | (simpa (decide := true) [xb, h4, h8, h14] using hk))
set_option maxHeartbeats 4000000 in
set_option maxRecDepth 20000 in
theorem c_X4_placeOf {σ : xH} {K : Int32 → xH → Prop} (r i : Nat) (hk : K (nI (r * 20 + i)) σ) : Evi l (oC ad D cy) mX4_placeOf [.int (nI r), .int (nI i)] σ K := by
  refine x_enter (ls := [some (.int (nI r)), some (.int (nI i))]) rfl ?_
  refine x_iload_n (i := 0) dX4_placeOf_0 rfl rfl ?_
  refine x_bipush (v := nI 20) dX4_placeOf_1 (by decide) ?_
  refine x_imulN dX4_placeOf_3 ?_
  refine x_iload_n (i := 1) dX4_placeOf_4 rfl rfl ?_
  refine x_iaddN dX4_placeOf_5 ?_
  exact x_ireti dX4_placeOf_6 rfl hk
set_option maxHeartbeats 4000000 in
set_option maxRecDepth 20000 in
theorem c_X0_hurries {σ : xH} {K : Int32 → xH → Prop} (k : Int32) (hk : K (fHur k) σ) : Evi l (oC ad D cy) mX0_hurries [.int k] σ K := by
  refine x_enter (ls := [some (.int k)]) rfl ?_
  refine x_iload_n (i := 0) dX0_hurries_0 rfl rfl ?_
  refine x_tsw5 (nI 1) (nI 2) (nI 3) (nI 4) (nI 5) 36 36 42 42 39 42 dX0_hurries_1 (by decide) (by decide) (fun h1 => ?_) (fun h1 => ?_) (fun h1 => ?_) (fun h1 => ?_) (fun h1 => ?_) (fun h1_1 h1_2 h1_3 h1_4 h1_5 => ?_)
  · skip
    refine x_bipush (v := nI 6) dX0_hurries_36 (by decide) ?_
    exact x_ireti dX0_hurries_38 rfl (by first | (simpa (decide := true) [fHur, h1] using hk) | (exfalso; simp_all (decide := true); done))
  · skip
    refine x_bipush (v := nI 6) dX0_hurries_36 (by decide) ?_
    exact x_ireti dX0_hurries_38 rfl (by first | (simpa (decide := true) [fHur, h1] using hk) | (exfalso; simp_all (decide := true); done))
  · skip
    refine x_bipush (v := nI 12) dX0_hurries_42 (by decide) ?_
    exact x_ireti dX0_hurries_44 rfl (by first | (simpa (decide := true) [fHur, h1] using hk) | (exfalso; simp_all (decide := true); done))
  · skip
    refine x_bipush (v := nI 12) dX0_hurries_42 (by decide) ?_
    exact x_ireti dX0_hurries_44 rfl (by first | (simpa (decide := true) [fHur, h1] using hk) | (exfalso; simp_all (decide := true); done))
  · skip
    refine x_bipush (v := nI 22) dX0_hurries_39 (by decide) ?_
    exact x_ireti dX0_hurries_41 rfl (by first | (simpa (decide := true) [fHur, h1] using hk) | (exfalso; simp_all (decide := true); done))
  · skip
    refine x_bipush (v := nI 12) dX0_hurries_42 (by decide) ?_
    exact x_ireti dX0_hurries_44 rfl (by first | (simpa (decide := true) [fHur, h1_1, h1_2, h1_3, h1_4, h1_5] using hk) | (exfalso; simp_all (decide := true); done))
set_option maxHeartbeats 4000000 in
set_option maxRecDepth 20000 in
theorem c_X0_overBump {σ : xH} {K : Int32 → xH → Prop} (k w h : Int32) (hk : K (fBump k w h) σ) : Evi l (oC ad D cy) mX0_overBump [.int k, .int w, .int h] σ K := by
  refine x_enter (ls := [some (.int k), some (.int w), some (.int h), none, none]) rfl ?_
  refine x_iload_n (i := 0) dX0_overBump_0 rfl rfl ?_
  refine x_iconstN (n := 2) dX0_overBump_1 ?_
  refine x_icne (tgt := 13) dX0_overBump_2 rfl (fun h2 => ?_) (fun h2 => ?_)
  · skip
    refine x_iload_n (i := 0) dX0_overBump_13 rfl rfl ?_
    refine x_iconstN (n := 1) dX0_overBump_14 ?_
    refine x_iceq (tgt := 23) dX0_overBump_15 rfl (fun h15 => ?_) (fun h15 => ?_)
    · skip
      refine x_iconstN (n := 1) dX0_overBump_23 ?_
      refine x_goto (tgt := 28) dX0_overBump_24 rfl ?_
      refine y_istore_n (i := 3) (ls2 := [_, _, _, _, _]) dX0_overBump_28 rfl (by decide) rfl rfl ?_
      refine x_iload_n (i := 1) dX0_overBump_29 rfl rfl ?_
      refine x_iload_n (i := 3) dX0_overBump_30 rfl rfl ?_
      refine x_ifeq (tgt := 38) dX0_overBump_31 rfl (fun h31 => ?_) (fun h31 => ?_)
      · exact absurd h31 (by decide)
      · skip
        refine x_iconstN (n := 4) dX0_overBump_34 ?_
        refine x_goto (tgt := 40) dX0_overBump_35 rfl ?_
        refine x_iload_n (i := 2) dX0_overBump_40 rfl rfl ?_
        refine x_imul dX0_overBump_41 ?_
        refine x_isub dX0_overBump_42 ?_
        refine y_istore (i := 4) (ls2 := [_, _, _, _, _]) dX0_overBump_43 (by decide) rfl rfl ?_
        refine x_iload (i := 4) dX0_overBump_45 rfl ?_
        refine x_iconstN (n := 5) dX0_overBump_47 ?_
        refine x_icge (tgt := 55) dX0_overBump_48 rfl (fun h48 => ?_) (fun h48 => ?_)
        · skip
          refine x_iload (i := 4) dX0_overBump_55 rfl ?_
          exact x_ireti dX0_overBump_57 rfl (by first | (simpa (decide := true) [fBump, h2, h15, h31, h48] using hk) | (exfalso; simp_all (decide := true); done))
        · skip
          refine x_iconstN (n := 5) dX0_overBump_51 ?_
          refine x_goto (tgt := 57) dX0_overBump_52 rfl ?_
          exact x_ireti dX0_overBump_57 rfl (by first | (simpa (decide := true) [fBump, h2, h15, h31, h48] using hk) | (exfalso; simp_all (decide := true); done))
    · skip
      refine x_iload_n (i := 0) dX0_overBump_18 rfl rfl ?_
      refine x_iconstN (n := 4) dX0_overBump_19 ?_
      refine x_icne (tgt := 27) dX0_overBump_20 rfl (fun h20 => ?_) (fun h20 => ?_)
      · skip
        refine x_iconstN (n := 0) dX0_overBump_27 ?_
        refine y_istore_n (i := 3) (ls2 := [_, _, _, _, _]) dX0_overBump_28 rfl (by decide) rfl rfl ?_
        refine x_iload_n (i := 1) dX0_overBump_29 rfl rfl ?_
        refine x_iload_n (i := 3) dX0_overBump_30 rfl rfl ?_
        refine x_ifeq (tgt := 38) dX0_overBump_31 rfl (fun h31 => ?_) (fun h31 => ?_)
        · skip
          refine x_bipush (v := nI 8) dX0_overBump_38 (by decide) ?_
          refine x_iload_n (i := 2) dX0_overBump_40 rfl rfl ?_
          refine x_imul dX0_overBump_41 ?_
          refine x_isub dX0_overBump_42 ?_
          refine y_istore (i := 4) (ls2 := [_, _, _, _, _]) dX0_overBump_43 (by decide) rfl rfl ?_
          refine x_iload (i := 4) dX0_overBump_45 rfl ?_
          refine x_iconstN (n := 5) dX0_overBump_47 ?_
          refine x_icge (tgt := 55) dX0_overBump_48 rfl (fun h48 => ?_) (fun h48 => ?_)
          · skip
            refine x_iload (i := 4) dX0_overBump_55 rfl ?_
            exact x_ireti dX0_overBump_57 rfl (by first | (simpa (decide := true) [fBump, h2, h15, h20, h31, h48] using hk) | (exfalso; simp_all (decide := true); done))
          · skip
            refine x_iconstN (n := 5) dX0_overBump_51 ?_
            refine x_goto (tgt := 57) dX0_overBump_52 rfl ?_
            exact x_ireti dX0_overBump_57 rfl (by first | (simpa (decide := true) [fBump, h2, h15, h20, h31, h48] using hk) | (exfalso; simp_all (decide := true); done))
        · exact absurd h31 (by decide)
      · skip
        refine x_iconstN (n := 1) dX0_overBump_23 ?_
        refine x_goto (tgt := 28) dX0_overBump_24 rfl ?_
        refine y_istore_n (i := 3) (ls2 := [_, _, _, _, _]) dX0_overBump_28 rfl (by decide) rfl rfl ?_
        refine x_iload_n (i := 1) dX0_overBump_29 rfl rfl ?_
        refine x_iload_n (i := 3) dX0_overBump_30 rfl rfl ?_
        refine x_ifeq (tgt := 38) dX0_overBump_31 rfl (fun h31 => ?_) (fun h31 => ?_)
        · exact absurd h31 (by decide)
        · skip
          refine x_iconstN (n := 4) dX0_overBump_34 ?_
          refine x_goto (tgt := 40) dX0_overBump_35 rfl ?_
          refine x_iload_n (i := 2) dX0_overBump_40 rfl rfl ?_
          refine x_imul dX0_overBump_41 ?_
          refine x_isub dX0_overBump_42 ?_
          refine y_istore (i := 4) (ls2 := [_, _, _, _, _]) dX0_overBump_43 (by decide) rfl rfl ?_
          refine x_iload (i := 4) dX0_overBump_45 rfl ?_
          refine x_iconstN (n := 5) dX0_overBump_47 ?_
          refine x_icge (tgt := 55) dX0_overBump_48 rfl (fun h48 => ?_) (fun h48 => ?_)
          · skip
            refine x_iload (i := 4) dX0_overBump_55 rfl ?_
            exact x_ireti dX0_overBump_57 rfl (by first | (simpa (decide := true) [fBump, h2, h15, h20, h31, h48] using hk) | (exfalso; simp_all (decide := true); done))
          · skip
            refine x_iconstN (n := 5) dX0_overBump_51 ?_
            refine x_goto (tgt := 57) dX0_overBump_52 rfl ?_
            exact x_ireti dX0_overBump_57 rfl (by first | (simpa (decide := true) [fBump, h2, h15, h20, h31, h48] using hk) | (exfalso; simp_all (decide := true); done))
  · skip
    refine x_iload_n (i := 2) dX0_overBump_5 rfl rfl ?_
    refine x_iconstN (n := 4) dX0_overBump_6 ?_
    refine x_iclt (tgt := 13) dX0_overBump_7 rfl (fun h7 => ?_) (fun h7 => ?_)
    · skip
      refine x_iload_n (i := 0) dX0_overBump_13 rfl rfl ?_
      refine x_iconstN (n := 1) dX0_overBump_14 ?_
      refine x_iceq (tgt := 23) dX0_overBump_15 rfl (fun h15 => ?_) (fun h15 => ?_)
      · skip
        refine x_iconstN (n := 1) dX0_overBump_23 ?_
        refine x_goto (tgt := 28) dX0_overBump_24 rfl ?_
        refine y_istore_n (i := 3) (ls2 := [_, _, _, _, _]) dX0_overBump_28 rfl (by decide) rfl rfl ?_
        refine x_iload_n (i := 1) dX0_overBump_29 rfl rfl ?_
        refine x_iload_n (i := 3) dX0_overBump_30 rfl rfl ?_
        refine x_ifeq (tgt := 38) dX0_overBump_31 rfl (fun h31 => ?_) (fun h31 => ?_)
        · exact absurd h31 (by decide)
        · skip
          refine x_iconstN (n := 4) dX0_overBump_34 ?_
          refine x_goto (tgt := 40) dX0_overBump_35 rfl ?_
          refine x_iload_n (i := 2) dX0_overBump_40 rfl rfl ?_
          refine x_imul dX0_overBump_41 ?_
          refine x_isub dX0_overBump_42 ?_
          refine y_istore (i := 4) (ls2 := [_, _, _, _, _]) dX0_overBump_43 (by decide) rfl rfl ?_
          refine x_iload (i := 4) dX0_overBump_45 rfl ?_
          refine x_iconstN (n := 5) dX0_overBump_47 ?_
          refine x_icge (tgt := 55) dX0_overBump_48 rfl (fun h48 => ?_) (fun h48 => ?_)
          · skip
            refine x_iload (i := 4) dX0_overBump_55 rfl ?_
            exact x_ireti dX0_overBump_57 rfl (by first | (simpa (decide := true) [fBump, h2, h7, h15, h31, h48] using hk) | (exfalso; simp_all (decide := true); done))
          · skip
            refine x_iconstN (n := 5) dX0_overBump_51 ?_
            refine x_goto (tgt := 57) dX0_overBump_52 rfl ?_
            exact x_ireti dX0_overBump_57 rfl (by first | (simpa (decide := true) [fBump, h2, h7, h15, h31, h48] using hk) | (exfalso; simp_all (decide := true); done))
      · skip
        refine x_iload_n (i := 0) dX0_overBump_18 rfl rfl ?_
        refine x_iconstN (n := 4) dX0_overBump_19 ?_
        refine x_icne (tgt := 27) dX0_overBump_20 rfl (fun h20 => ?_) (fun h20 => ?_)
        · skip
          refine x_iconstN (n := 0) dX0_overBump_27 ?_
          refine y_istore_n (i := 3) (ls2 := [_, _, _, _, _]) dX0_overBump_28 rfl (by decide) rfl rfl ?_
          refine x_iload_n (i := 1) dX0_overBump_29 rfl rfl ?_
          refine x_iload_n (i := 3) dX0_overBump_30 rfl rfl ?_
          refine x_ifeq (tgt := 38) dX0_overBump_31 rfl (fun h31 => ?_) (fun h31 => ?_)
          · skip
            refine x_bipush (v := nI 8) dX0_overBump_38 (by decide) ?_
            refine x_iload_n (i := 2) dX0_overBump_40 rfl rfl ?_
            refine x_imul dX0_overBump_41 ?_
            refine x_isub dX0_overBump_42 ?_
            refine y_istore (i := 4) (ls2 := [_, _, _, _, _]) dX0_overBump_43 (by decide) rfl rfl ?_
            refine x_iload (i := 4) dX0_overBump_45 rfl ?_
            refine x_iconstN (n := 5) dX0_overBump_47 ?_
            refine x_icge (tgt := 55) dX0_overBump_48 rfl (fun h48 => ?_) (fun h48 => ?_)
            · skip
              refine x_iload (i := 4) dX0_overBump_55 rfl ?_
              exact x_ireti dX0_overBump_57 rfl (by first | (simpa (decide := true) [fBump, h2, h7, h15, h20, h31, h48] using hk) | (exfalso; simp_all (decide := true); done))
            · skip
              refine x_iconstN (n := 5) dX0_overBump_51 ?_
              refine x_goto (tgt := 57) dX0_overBump_52 rfl ?_
              exact x_ireti dX0_overBump_57 rfl (by first | (simpa (decide := true) [fBump, h2, h7, h15, h20, h31, h48] using hk) | (exfalso; simp_all (decide := true); done))
          · exact absurd h31 (by decide)
        · skip
          refine x_iconstN (n := 1) dX0_overBump_23 ?_
          refine x_goto (tgt := 28) dX0_overBump_24 rfl ?_
          refine y_istore_n (i := 3) (ls2 := [_, _, _, _, _]) dX0_overBump_28 rfl (by decide) rfl rfl ?_
          refine x_iload_n (i := 1) dX0_overBump_29 rfl rfl ?_
          refine x_iload_n (i := 3) dX0_overBump_30 rfl rfl ?_
          refine x_ifeq (tgt := 38) dX0_overBump_31 rfl (fun h31 => ?_) (fun h31 => ?_)
          · exact absurd h31 (by decide)
          · skip
            refine x_iconstN (n := 4) dX0_overBump_34 ?_
            refine x_goto (tgt := 40) dX0_overBump_35 rfl ?_
            refine x_iload_n (i := 2) dX0_overBump_40 rfl rfl ?_
            refine x_imul dX0_overBump_41 ?_
            refine x_isub dX0_overBump_42 ?_
            refine y_istore (i := 4) (ls2 := [_, _, _, _, _]) dX0_overBump_43 (by decide) rfl rfl ?_
            refine x_iload (i := 4) dX0_overBump_45 rfl ?_
            refine x_iconstN (n := 5) dX0_overBump_47 ?_
            refine x_icge (tgt := 55) dX0_overBump_48 rfl (fun h48 => ?_) (fun h48 => ?_)
            · skip
              refine x_iload (i := 4) dX0_overBump_55 rfl ?_
              exact x_ireti dX0_overBump_57 rfl (by first | (simpa (decide := true) [fBump, h2, h7, h15, h20, h31, h48] using hk) | (exfalso; simp_all (decide := true); done))
            · skip
              refine x_iconstN (n := 5) dX0_overBump_51 ?_
              refine x_goto (tgt := 57) dX0_overBump_52 rfl ?_
              exact x_ireti dX0_overBump_57 rfl (by first | (simpa (decide := true) [fBump, h2, h7, h15, h20, h31, h48] using hk) | (exfalso; simp_all (decide := true); done))
    · skip
      refine x_bipush (v := nI 8) dX0_overBump_10 (by decide) ?_
      exact x_ireti dX0_overBump_12 rfl (by first | (simpa (decide := true) [fBump, h2, h7] using hk) | (exfalso; simp_all (decide := true); done))
set_option maxHeartbeats 4000000 in
set_option maxRecDepth 20000 in
theorem c_X0_slowsTo {σ : xH} {K : Int32 → xH → Prop} (k w t h g : Int32) (hk : K (fSlow k w t h g) σ) : Evi l (oC ad D cy) mX0_slowsTo [.int k, .int w, .int t, .int h, .int g] σ K := by
  refine x_enter (ls := [some (.int k), some (.int w), some (.int t), some (.int h), some (.int g), none, none]) rfl ?_
  refine x_iload_n (i := 0) dX0_slowsTo_0 rfl rfl ?_
  refine x_iconstN (n := 3) dX0_slowsTo_1 ?_
  refine x_iceq (tgt := 10) dX0_slowsTo_2 rfl (fun h2 => ?_) (fun h2 => ?_)
  · skip
    refine x_iconstN (n := 1) dX0_slowsTo_10 ?_
    refine x_goto (tgt := 15) dX0_slowsTo_11 rfl ?_
    refine y_istore (i := 5) (ls2 := [_, _, _, _, _, _, _]) dX0_slowsTo_15 (by decide) rfl rfl ?_
    refine x_iload_n (i := 1) dX0_slowsTo_17 rfl rfl ?_
    refine y_istore (i := 6) (ls2 := [_, _, _, _, _, _, _]) dX0_slowsTo_18 (by decide) rfl rfl ?_
    refine x_iload_n (i := 2) dX0_slowsTo_20 rfl rfl ?_
    refine x_tsw4 (nI 1) (nI 2) (nI 3) (nI 4) 52 63 80 97 123 dX0_slowsTo_21 (by decide) (by decide) (fun h21 => ?_) (fun h21 => ?_) (fun h21 => ?_) (fun h21 => ?_) (fun h21_1 h21_2 h21_3 h21_4 => ?_)
    · skip
      refine x_iload_n (i := 0) dX0_slowsTo_52 rfl rfl ?_
      refine x_iload_n (i := 1) dX0_slowsTo_53 rfl rfl ?_
      refine x_iload_n (i := 3) dX0_slowsTo_54 rfl rfl ?_
      refine x_s3i dX0_slowsTo_55 okX0_overBump ml_X0_15 (Nat.le_of_ble_eq_true rfl) ⟨by decide, by decide⟩ (Nat.le_of_ble_eq_true rfl) (c_X0_overBump _ _ _ ?_)
      refine y_istore (i := 6) (ls2 := [_, _, _, _, _, _, _]) dX0_slowsTo_58 (by decide) rfl rfl ?_
      refine x_goto (tgt := 123) dX0_slowsTo_60 rfl ?_
      refine x_iload_n (i := 0) dX0_slowsTo_123 rfl rfl ?_
      refine x_iconstN (n := 5) dX0_slowsTo_124 ?_
      refine x_icne (tgt := 139) dX0_slowsTo_125 rfl (fun h125 => ?_) (fun h125 => ?_)
      · skip
        refine x_iload (i := 6) dX0_slowsTo_139 rfl ?_
        exact x_ireti dX0_slowsTo_141 rfl (by first | (simpa (decide := true) [fSlow, fPlain, h2, h21, h125] using hk) | (exfalso; simp_all (decide := true); done))
      · skip
        refine x_iload (i := 6) dX0_slowsTo_128 rfl ?_
        refine x_iconstN (n := 5) dX0_slowsTo_130 ?_
        refine x_iadd dX0_slowsTo_131 ?_
        refine x_iload_n (i := 1) dX0_slowsTo_132 rfl rfl ?_
        refine x_min dX0_slowsTo_133 ml_X0_19 sm_J9_min_7cf53 in_J9 co_J9_min_7cf53 (by decide) (Nat.le_of_ble_eq_true rfl) ?_
        refine x_goto (tgt := 141) dX0_slowsTo_136 rfl ?_
        exact x_ireti dX0_slowsTo_141 rfl (by first | (simpa (decide := true) [fSlow, fPlain, h2, h21, h125] using hk) | (exfalso; simp_all (decide := true); done))
    · skip
      refine x_iload_n (i := 0) dX0_slowsTo_63 rfl rfl ?_
      refine x_iconstN (n := 4) dX0_slowsTo_64 ?_
      refine x_icne (tgt := 72) dX0_slowsTo_65 rfl (fun h65 => ?_) (fun h65 => ?_)
      · skip
        refine x_iload_n (i := 1) dX0_slowsTo_72 rfl rfl ?_
        refine x_iconstN (n := 2) dX0_slowsTo_73 ?_
        refine x_idiv dX0_slowsTo_74 (by decide) ?_
        refine y_istore (i := 6) (ls2 := [_, _, _, _, _, _, _]) dX0_slowsTo_75 (by decide) rfl rfl ?_
        refine x_goto (tgt := 123) dX0_slowsTo_77 rfl ?_
        refine x_iload_n (i := 0) dX0_slowsTo_123 rfl rfl ?_
        refine x_iconstN (n := 5) dX0_slowsTo_124 ?_
        refine x_icne (tgt := 139) dX0_slowsTo_125 rfl (fun h125 => ?_) (fun h125 => ?_)
        · skip
          refine x_iload (i := 6) dX0_slowsTo_139 rfl ?_
          exact x_ireti dX0_slowsTo_141 rfl (by first | (simpa (decide := true) [fSlow, fPlain, h2, h21, h65, h125] using hk) | (exfalso; simp_all (decide := true); done))
        · skip
          refine x_iload (i := 6) dX0_slowsTo_128 rfl ?_
          refine x_iconstN (n := 5) dX0_slowsTo_130 ?_
          refine x_iadd dX0_slowsTo_131 ?_
          refine x_iload_n (i := 1) dX0_slowsTo_132 rfl rfl ?_
          refine x_min dX0_slowsTo_133 ml_X0_19 sm_J9_min_7cf53 in_J9 co_J9_min_7cf53 (by decide) (Nat.le_of_ble_eq_true rfl) ?_
          refine x_goto (tgt := 141) dX0_slowsTo_136 rfl ?_
          exact x_ireti dX0_slowsTo_141 rfl (by first | (simpa (decide := true) [fSlow, fPlain, h2, h21, h65, h125] using hk) | (exfalso; simp_all (decide := true); done))
      · skip
        refine x_iload_n (i := 1) dX0_slowsTo_68 rfl rfl ?_
        refine x_goto (tgt := 75) dX0_slowsTo_69 rfl ?_
        refine y_istore (i := 6) (ls2 := [_, _, _, _, _, _, _]) dX0_slowsTo_75 (by decide) rfl rfl ?_
        refine x_goto (tgt := 123) dX0_slowsTo_77 rfl ?_
        refine x_iload_n (i := 0) dX0_slowsTo_123 rfl rfl ?_
        refine x_iconstN (n := 5) dX0_slowsTo_124 ?_
        refine x_icne (tgt := 139) dX0_slowsTo_125 rfl (fun h125 => ?_) (fun h125 => ?_)
        · skip
          refine x_iload (i := 6) dX0_slowsTo_139 rfl ?_
          exact x_ireti dX0_slowsTo_141 rfl (by first | (simpa (decide := true) [fSlow, fPlain, h2, h21, h65, h125] using hk) | (exfalso; simp_all (decide := true); done))
        · skip
          refine x_iload (i := 6) dX0_slowsTo_128 rfl ?_
          refine x_iconstN (n := 5) dX0_slowsTo_130 ?_
          refine x_iadd dX0_slowsTo_131 ?_
          refine x_iload_n (i := 1) dX0_slowsTo_132 rfl rfl ?_
          refine x_min dX0_slowsTo_133 ml_X0_19 sm_J9_min_7cf53 in_J9 co_J9_min_7cf53 (by decide) (Nat.le_of_ble_eq_true rfl) ?_
          refine x_goto (tgt := 141) dX0_slowsTo_136 rfl ?_
          exact x_ireti dX0_slowsTo_141 rfl (by first | (simpa (decide := true) [fSlow, fPlain, h2, h21, h65, h125] using hk) | (exfalso; simp_all (decide := true); done))
    · skip
      refine x_iload (i := 5) dX0_slowsTo_80 rfl ?_
      refine x_ifeq (tgt := 89) dX0_slowsTo_82 rfl (fun h82 => ?_) (fun h82 => ?_)
      · exact absurd h82 (by decide)
      · skip
        refine x_iload_n (i := 1) dX0_slowsTo_85 rfl rfl ?_
        refine x_goto (tgt := 92) dX0_slowsTo_86 rfl ?_
        refine y_istore (i := 6) (ls2 := [_, _, _, _, _, _, _]) dX0_slowsTo_92 (by decide) rfl rfl ?_
        refine x_goto (tgt := 123) dX0_slowsTo_94 rfl ?_
        refine x_iload_n (i := 0) dX0_slowsTo_123 rfl rfl ?_
        refine x_iconstN (n := 5) dX0_slowsTo_124 ?_
        refine x_icne (tgt := 139) dX0_slowsTo_125 rfl (fun h125 => ?_) (fun h125 => ?_)
        · skip
          refine x_iload (i := 6) dX0_slowsTo_139 rfl ?_
          exact x_ireti dX0_slowsTo_141 rfl (by first | (simpa (decide := true) [fSlow, fPlain, h2, h21, h82, h125] using hk) | (exfalso; simp_all (decide := true); done))
        · skip
          refine x_iload (i := 6) dX0_slowsTo_128 rfl ?_
          refine x_iconstN (n := 5) dX0_slowsTo_130 ?_
          refine x_iadd dX0_slowsTo_131 ?_
          refine x_iload_n (i := 1) dX0_slowsTo_132 rfl rfl ?_
          refine x_min dX0_slowsTo_133 ml_X0_19 sm_J9_min_7cf53 in_J9 co_J9_min_7cf53 (by decide) (Nat.le_of_ble_eq_true rfl) ?_
          refine x_goto (tgt := 141) dX0_slowsTo_136 rfl ?_
          exact x_ireti dX0_slowsTo_141 rfl (by first | (simpa (decide := true) [fSlow, fPlain, h2, h21, h82, h125] using hk) | (exfalso; simp_all (decide := true); done))
    · skip
      refine x_iload (i := 5) dX0_slowsTo_97 rfl ?_
      refine x_ifne (tgt := 109) dX0_slowsTo_99 rfl (fun h99 => ?_) (fun h99 => ?_)
      · skip
        refine x_iload_n (i := 1) dX0_slowsTo_109 rfl rfl ?_
        refine x_goto (tgt := 118) dX0_slowsTo_110 rfl ?_
        refine y_istore (i := 6) (ls2 := [_, _, _, _, _, _, _]) dX0_slowsTo_118 (by decide) rfl rfl ?_
        refine x_goto (tgt := 123) dX0_slowsTo_120 rfl ?_
        refine x_iload_n (i := 0) dX0_slowsTo_123 rfl rfl ?_
        refine x_iconstN (n := 5) dX0_slowsTo_124 ?_
        refine x_icne (tgt := 139) dX0_slowsTo_125 rfl (fun h125 => ?_) (fun h125 => ?_)
        · skip
          refine x_iload (i := 6) dX0_slowsTo_139 rfl ?_
          exact x_ireti dX0_slowsTo_141 rfl (by first | (simpa (decide := true) [fSlow, fPlain, h2, h21, h99, h125] using hk) | (exfalso; simp_all (decide := true); done))
        · skip
          refine x_iload (i := 6) dX0_slowsTo_128 rfl ?_
          refine x_iconstN (n := 5) dX0_slowsTo_130 ?_
          refine x_iadd dX0_slowsTo_131 ?_
          refine x_iload_n (i := 1) dX0_slowsTo_132 rfl rfl ?_
          refine x_min dX0_slowsTo_133 ml_X0_19 sm_J9_min_7cf53 in_J9 co_J9_min_7cf53 (by decide) (Nat.le_of_ble_eq_true rfl) ?_
          refine x_goto (tgt := 141) dX0_slowsTo_136 rfl ?_
          exact x_ireti dX0_slowsTo_141 rfl (by first | (simpa (decide := true) [fSlow, fPlain, h2, h21, h99, h125] using hk) | (exfalso; simp_all (decide := true); done))
      · exact absurd h99 (by decide)
    · skip
      refine x_iload_n (i := 0) dX0_slowsTo_123 rfl rfl ?_
      refine x_iconstN (n := 5) dX0_slowsTo_124 ?_
      refine x_icne (tgt := 139) dX0_slowsTo_125 rfl (fun h125 => ?_) (fun h125 => ?_)
      · skip
        refine x_iload (i := 6) dX0_slowsTo_139 rfl ?_
        exact x_ireti dX0_slowsTo_141 rfl (by first | (simpa (decide := true) [fSlow, fPlain, h2, h21_1, h21_2, h21_3, h21_4, h125] using hk) | (exfalso; simp_all (decide := true); done))
      · skip
        refine x_iload (i := 6) dX0_slowsTo_128 rfl ?_
        refine x_iconstN (n := 5) dX0_slowsTo_130 ?_
        refine x_iadd dX0_slowsTo_131 ?_
        refine x_iload_n (i := 1) dX0_slowsTo_132 rfl rfl ?_
        refine x_min dX0_slowsTo_133 ml_X0_19 sm_J9_min_7cf53 in_J9 co_J9_min_7cf53 (by decide) (Nat.le_of_ble_eq_true rfl) ?_
        refine x_goto (tgt := 141) dX0_slowsTo_136 rfl ?_
        exact x_ireti dX0_slowsTo_141 rfl (by first | (simpa (decide := true) [fSlow, fPlain, h2, h21_1, h21_2, h21_3, h21_4, h125] using hk) | (exfalso; simp_all (decide := true); done))
  · skip
    refine x_iload_n (i := 0) dX0_slowsTo_5 rfl rfl ?_
    refine x_iconstN (n := 5) dX0_slowsTo_6 ?_
    refine x_icne (tgt := 14) dX0_slowsTo_7 rfl (fun h7 => ?_) (fun h7 => ?_)
    · skip
      refine x_iconstN (n := 0) dX0_slowsTo_14 ?_
      refine y_istore (i := 5) (ls2 := [_, _, _, _, _, _, _]) dX0_slowsTo_15 (by decide) rfl rfl ?_
      refine x_iload_n (i := 1) dX0_slowsTo_17 rfl rfl ?_
      refine y_istore (i := 6) (ls2 := [_, _, _, _, _, _, _]) dX0_slowsTo_18 (by decide) rfl rfl ?_
      refine x_iload_n (i := 2) dX0_slowsTo_20 rfl rfl ?_
      refine x_tsw4 (nI 1) (nI 2) (nI 3) (nI 4) 52 63 80 97 123 dX0_slowsTo_21 (by decide) (by decide) (fun h21 => ?_) (fun h21 => ?_) (fun h21 => ?_) (fun h21 => ?_) (fun h21_1 h21_2 h21_3 h21_4 => ?_)
      · skip
        refine x_iload_n (i := 0) dX0_slowsTo_52 rfl rfl ?_
        refine x_iload_n (i := 1) dX0_slowsTo_53 rfl rfl ?_
        refine x_iload_n (i := 3) dX0_slowsTo_54 rfl rfl ?_
        refine x_s3i dX0_slowsTo_55 okX0_overBump ml_X0_15 (Nat.le_of_ble_eq_true rfl) ⟨by decide, by decide⟩ (Nat.le_of_ble_eq_true rfl) (c_X0_overBump _ _ _ ?_)
        refine y_istore (i := 6) (ls2 := [_, _, _, _, _, _, _]) dX0_slowsTo_58 (by decide) rfl rfl ?_
        refine x_goto (tgt := 123) dX0_slowsTo_60 rfl ?_
        refine x_iload_n (i := 0) dX0_slowsTo_123 rfl rfl ?_
        refine x_iconstN (n := 5) dX0_slowsTo_124 ?_
        refine x_icne (tgt := 139) dX0_slowsTo_125 rfl (fun h125 => ?_) (fun h125 => ?_)
        · skip
          refine x_iload (i := 6) dX0_slowsTo_139 rfl ?_
          exact x_ireti dX0_slowsTo_141 rfl (by first | (simpa (decide := true) [fSlow, fPlain, h2, h7, h21, h125] using hk) | (exfalso; simp_all (decide := true); done))
        · skip
          refine x_iload (i := 6) dX0_slowsTo_128 rfl ?_
          refine x_iconstN (n := 5) dX0_slowsTo_130 ?_
          refine x_iadd dX0_slowsTo_131 ?_
          refine x_iload_n (i := 1) dX0_slowsTo_132 rfl rfl ?_
          refine x_min dX0_slowsTo_133 ml_X0_19 sm_J9_min_7cf53 in_J9 co_J9_min_7cf53 (by decide) (Nat.le_of_ble_eq_true rfl) ?_
          refine x_goto (tgt := 141) dX0_slowsTo_136 rfl ?_
          exact x_ireti dX0_slowsTo_141 rfl (by first | (simpa (decide := true) [fSlow, fPlain, h2, h7, h21, h125] using hk) | (exfalso; simp_all (decide := true); done))
      · skip
        refine x_iload_n (i := 0) dX0_slowsTo_63 rfl rfl ?_
        refine x_iconstN (n := 4) dX0_slowsTo_64 ?_
        refine x_icne (tgt := 72) dX0_slowsTo_65 rfl (fun h65 => ?_) (fun h65 => ?_)
        · skip
          refine x_iload_n (i := 1) dX0_slowsTo_72 rfl rfl ?_
          refine x_iconstN (n := 2) dX0_slowsTo_73 ?_
          refine x_idiv dX0_slowsTo_74 (by decide) ?_
          refine y_istore (i := 6) (ls2 := [_, _, _, _, _, _, _]) dX0_slowsTo_75 (by decide) rfl rfl ?_
          refine x_goto (tgt := 123) dX0_slowsTo_77 rfl ?_
          refine x_iload_n (i := 0) dX0_slowsTo_123 rfl rfl ?_
          refine x_iconstN (n := 5) dX0_slowsTo_124 ?_
          refine x_icne (tgt := 139) dX0_slowsTo_125 rfl (fun h125 => ?_) (fun h125 => ?_)
          · skip
            refine x_iload (i := 6) dX0_slowsTo_139 rfl ?_
            exact x_ireti dX0_slowsTo_141 rfl (by first | (simpa (decide := true) [fSlow, fPlain, h2, h7, h21, h65, h125] using hk) | (exfalso; simp_all (decide := true); done))
          · skip
            refine x_iload (i := 6) dX0_slowsTo_128 rfl ?_
            refine x_iconstN (n := 5) dX0_slowsTo_130 ?_
            refine x_iadd dX0_slowsTo_131 ?_
            refine x_iload_n (i := 1) dX0_slowsTo_132 rfl rfl ?_
            refine x_min dX0_slowsTo_133 ml_X0_19 sm_J9_min_7cf53 in_J9 co_J9_min_7cf53 (by decide) (Nat.le_of_ble_eq_true rfl) ?_
            refine x_goto (tgt := 141) dX0_slowsTo_136 rfl ?_
            exact x_ireti dX0_slowsTo_141 rfl (by first | (simpa (decide := true) [fSlow, fPlain, h2, h7, h21, h65, h125] using hk) | (exfalso; simp_all (decide := true); done))
        · skip
          refine x_iload_n (i := 1) dX0_slowsTo_68 rfl rfl ?_
          refine x_goto (tgt := 75) dX0_slowsTo_69 rfl ?_
          refine y_istore (i := 6) (ls2 := [_, _, _, _, _, _, _]) dX0_slowsTo_75 (by decide) rfl rfl ?_
          refine x_goto (tgt := 123) dX0_slowsTo_77 rfl ?_
          refine x_iload_n (i := 0) dX0_slowsTo_123 rfl rfl ?_
          refine x_iconstN (n := 5) dX0_slowsTo_124 ?_
          refine x_icne (tgt := 139) dX0_slowsTo_125 rfl (fun h125 => ?_) (fun h125 => ?_)
          · skip
            refine x_iload (i := 6) dX0_slowsTo_139 rfl ?_
            exact x_ireti dX0_slowsTo_141 rfl (by first | (simpa (decide := true) [fSlow, fPlain, h2, h7, h21, h65, h125] using hk) | (exfalso; simp_all (decide := true); done))
          · skip
            refine x_iload (i := 6) dX0_slowsTo_128 rfl ?_
            refine x_iconstN (n := 5) dX0_slowsTo_130 ?_
            refine x_iadd dX0_slowsTo_131 ?_
            refine x_iload_n (i := 1) dX0_slowsTo_132 rfl rfl ?_
            refine x_min dX0_slowsTo_133 ml_X0_19 sm_J9_min_7cf53 in_J9 co_J9_min_7cf53 (by decide) (Nat.le_of_ble_eq_true rfl) ?_
            refine x_goto (tgt := 141) dX0_slowsTo_136 rfl ?_
            exact x_ireti dX0_slowsTo_141 rfl (by first | (simpa (decide := true) [fSlow, fPlain, h2, h7, h21, h65, h125] using hk) | (exfalso; simp_all (decide := true); done))
      · skip
        refine x_iload (i := 5) dX0_slowsTo_80 rfl ?_
        refine x_ifeq (tgt := 89) dX0_slowsTo_82 rfl (fun h82 => ?_) (fun h82 => ?_)
        · skip
          refine x_iload_n (i := 1) dX0_slowsTo_89 rfl rfl ?_
          refine x_iconstN (n := 5) dX0_slowsTo_90 ?_
          refine x_isub dX0_slowsTo_91 ?_
          refine y_istore (i := 6) (ls2 := [_, _, _, _, _, _, _]) dX0_slowsTo_92 (by decide) rfl rfl ?_
          refine x_goto (tgt := 123) dX0_slowsTo_94 rfl ?_
          refine x_iload_n (i := 0) dX0_slowsTo_123 rfl rfl ?_
          refine x_iconstN (n := 5) dX0_slowsTo_124 ?_
          refine x_icne (tgt := 139) dX0_slowsTo_125 rfl (fun h125 => ?_) (fun h125 => ?_)
          · skip
            refine x_iload (i := 6) dX0_slowsTo_139 rfl ?_
            exact x_ireti dX0_slowsTo_141 rfl (by first | (simpa (decide := true) [fSlow, fPlain, h2, h7, h21, h82, h125] using hk) | (exfalso; simp_all (decide := true); done))
          · skip
            refine x_iload (i := 6) dX0_slowsTo_128 rfl ?_
            refine x_iconstN (n := 5) dX0_slowsTo_130 ?_
            refine x_iadd dX0_slowsTo_131 ?_
            refine x_iload_n (i := 1) dX0_slowsTo_132 rfl rfl ?_
            refine x_min dX0_slowsTo_133 ml_X0_19 sm_J9_min_7cf53 in_J9 co_J9_min_7cf53 (by decide) (Nat.le_of_ble_eq_true rfl) ?_
            refine x_goto (tgt := 141) dX0_slowsTo_136 rfl ?_
            exact x_ireti dX0_slowsTo_141 rfl (by first | (simpa (decide := true) [fSlow, fPlain, h2, h7, h21, h82, h125] using hk) | (exfalso; simp_all (decide := true); done))
        · exact absurd h82 (by decide)
      · skip
        refine x_iload (i := 5) dX0_slowsTo_97 rfl ?_
        refine x_ifne (tgt := 109) dX0_slowsTo_99 rfl (fun h99 => ?_) (fun h99 => ?_)
        · exact absurd h99 (by decide)
        · skip
          refine x_iload (i := 4) dX0_slowsTo_102 rfl ?_
          refine x_bipush (v := nI 21) dX0_slowsTo_104 (by decide) ?_
          refine x_iclt (tgt := 113) dX0_slowsTo_106 rfl (fun h106 => ?_) (fun h106 => ?_)
          · skip
            refine x_iload_n (i := 1) dX0_slowsTo_113 rfl rfl ?_
            refine x_iconstN (n := 3) dX0_slowsTo_114 ?_
            refine x_imul dX0_slowsTo_115 ?_
            refine x_iconstN (n := 4) dX0_slowsTo_116 ?_
            refine x_idiv dX0_slowsTo_117 (by decide) ?_
            refine y_istore (i := 6) (ls2 := [_, _, _, _, _, _, _]) dX0_slowsTo_118 (by decide) rfl rfl ?_
            refine x_goto (tgt := 123) dX0_slowsTo_120 rfl ?_
            refine x_iload_n (i := 0) dX0_slowsTo_123 rfl rfl ?_
            refine x_iconstN (n := 5) dX0_slowsTo_124 ?_
            refine x_icne (tgt := 139) dX0_slowsTo_125 rfl (fun h125 => ?_) (fun h125 => ?_)
            · skip
              refine x_iload (i := 6) dX0_slowsTo_139 rfl ?_
              exact x_ireti dX0_slowsTo_141 rfl (by first | (simpa (decide := true) [fSlow, fPlain, h2, h7, h21, h99, h106, h125] using hk) | (exfalso; simp_all (decide := true); done))
            · skip
              refine x_iload (i := 6) dX0_slowsTo_128 rfl ?_
              refine x_iconstN (n := 5) dX0_slowsTo_130 ?_
              refine x_iadd dX0_slowsTo_131 ?_
              refine x_iload_n (i := 1) dX0_slowsTo_132 rfl rfl ?_
              refine x_min dX0_slowsTo_133 ml_X0_19 sm_J9_min_7cf53 in_J9 co_J9_min_7cf53 (by decide) (Nat.le_of_ble_eq_true rfl) ?_
              refine x_goto (tgt := 141) dX0_slowsTo_136 rfl ?_
              exact x_ireti dX0_slowsTo_141 rfl (by first | (simpa (decide := true) [fSlow, fPlain, h2, h7, h21, h99, h106, h125] using hk) | (exfalso; simp_all (decide := true); done))
          · skip
            refine x_iload_n (i := 1) dX0_slowsTo_109 rfl rfl ?_
            refine x_goto (tgt := 118) dX0_slowsTo_110 rfl ?_
            refine y_istore (i := 6) (ls2 := [_, _, _, _, _, _, _]) dX0_slowsTo_118 (by decide) rfl rfl ?_
            refine x_goto (tgt := 123) dX0_slowsTo_120 rfl ?_
            refine x_iload_n (i := 0) dX0_slowsTo_123 rfl rfl ?_
            refine x_iconstN (n := 5) dX0_slowsTo_124 ?_
            refine x_icne (tgt := 139) dX0_slowsTo_125 rfl (fun h125 => ?_) (fun h125 => ?_)
            · skip
              refine x_iload (i := 6) dX0_slowsTo_139 rfl ?_
              exact x_ireti dX0_slowsTo_141 rfl (by first | (simpa (decide := true) [fSlow, fPlain, h2, h7, h21, h99, h106, h125] using hk) | (exfalso; simp_all (decide := true); done))
            · skip
              refine x_iload (i := 6) dX0_slowsTo_128 rfl ?_
              refine x_iconstN (n := 5) dX0_slowsTo_130 ?_
              refine x_iadd dX0_slowsTo_131 ?_
              refine x_iload_n (i := 1) dX0_slowsTo_132 rfl rfl ?_
              refine x_min dX0_slowsTo_133 ml_X0_19 sm_J9_min_7cf53 in_J9 co_J9_min_7cf53 (by decide) (Nat.le_of_ble_eq_true rfl) ?_
              refine x_goto (tgt := 141) dX0_slowsTo_136 rfl ?_
              exact x_ireti dX0_slowsTo_141 rfl (by first | (simpa (decide := true) [fSlow, fPlain, h2, h7, h21, h99, h106, h125] using hk) | (exfalso; simp_all (decide := true); done))
      · skip
        refine x_iload_n (i := 0) dX0_slowsTo_123 rfl rfl ?_
        refine x_iconstN (n := 5) dX0_slowsTo_124 ?_
        refine x_icne (tgt := 139) dX0_slowsTo_125 rfl (fun h125 => ?_) (fun h125 => ?_)
        · skip
          refine x_iload (i := 6) dX0_slowsTo_139 rfl ?_
          exact x_ireti dX0_slowsTo_141 rfl (by first | (simpa (decide := true) [fSlow, fPlain, h2, h7, h21_1, h21_2, h21_3, h21_4, h125] using hk) | (exfalso; simp_all (decide := true); done))
        · skip
          refine x_iload (i := 6) dX0_slowsTo_128 rfl ?_
          refine x_iconstN (n := 5) dX0_slowsTo_130 ?_
          refine x_iadd dX0_slowsTo_131 ?_
          refine x_iload_n (i := 1) dX0_slowsTo_132 rfl rfl ?_
          refine x_min dX0_slowsTo_133 ml_X0_19 sm_J9_min_7cf53 in_J9 co_J9_min_7cf53 (by decide) (Nat.le_of_ble_eq_true rfl) ?_
          refine x_goto (tgt := 141) dX0_slowsTo_136 rfl ?_
          exact x_ireti dX0_slowsTo_141 rfl (by first | (simpa (decide := true) [fSlow, fPlain, h2, h7, h21_1, h21_2, h21_3, h21_4, h125] using hk) | (exfalso; simp_all (decide := true); done))
    · skip
      refine x_iconstN (n := 1) dX0_slowsTo_10 ?_
      refine x_goto (tgt := 15) dX0_slowsTo_11 rfl ?_
      refine y_istore (i := 5) (ls2 := [_, _, _, _, _, _, _]) dX0_slowsTo_15 (by decide) rfl rfl ?_
      refine x_iload_n (i := 1) dX0_slowsTo_17 rfl rfl ?_
      refine y_istore (i := 6) (ls2 := [_, _, _, _, _, _, _]) dX0_slowsTo_18 (by decide) rfl rfl ?_
      refine x_iload_n (i := 2) dX0_slowsTo_20 rfl rfl ?_
      refine x_tsw4 (nI 1) (nI 2) (nI 3) (nI 4) 52 63 80 97 123 dX0_slowsTo_21 (by decide) (by decide) (fun h21 => ?_) (fun h21 => ?_) (fun h21 => ?_) (fun h21 => ?_) (fun h21_1 h21_2 h21_3 h21_4 => ?_)
      · skip
        refine x_iload_n (i := 0) dX0_slowsTo_52 rfl rfl ?_
        refine x_iload_n (i := 1) dX0_slowsTo_53 rfl rfl ?_
        refine x_iload_n (i := 3) dX0_slowsTo_54 rfl rfl ?_
        refine x_s3i dX0_slowsTo_55 okX0_overBump ml_X0_15 (Nat.le_of_ble_eq_true rfl) ⟨by decide, by decide⟩ (Nat.le_of_ble_eq_true rfl) (c_X0_overBump _ _ _ ?_)
        refine y_istore (i := 6) (ls2 := [_, _, _, _, _, _, _]) dX0_slowsTo_58 (by decide) rfl rfl ?_
        refine x_goto (tgt := 123) dX0_slowsTo_60 rfl ?_
        refine x_iload_n (i := 0) dX0_slowsTo_123 rfl rfl ?_
        refine x_iconstN (n := 5) dX0_slowsTo_124 ?_
        refine x_icne (tgt := 139) dX0_slowsTo_125 rfl (fun h125 => ?_) (fun h125 => ?_)
        · skip
          refine x_iload (i := 6) dX0_slowsTo_139 rfl ?_
          exact x_ireti dX0_slowsTo_141 rfl (by first | (simpa (decide := true) [fSlow, fPlain, h2, h7, h21, h125] using hk) | (exfalso; simp_all (decide := true); done))
        · skip
          refine x_iload (i := 6) dX0_slowsTo_128 rfl ?_
          refine x_iconstN (n := 5) dX0_slowsTo_130 ?_
          refine x_iadd dX0_slowsTo_131 ?_
          refine x_iload_n (i := 1) dX0_slowsTo_132 rfl rfl ?_
          refine x_min dX0_slowsTo_133 ml_X0_19 sm_J9_min_7cf53 in_J9 co_J9_min_7cf53 (by decide) (Nat.le_of_ble_eq_true rfl) ?_
          refine x_goto (tgt := 141) dX0_slowsTo_136 rfl ?_
          exact x_ireti dX0_slowsTo_141 rfl (by first | (simpa (decide := true) [fSlow, fPlain, h2, h7, h21, h125] using hk) | (exfalso; simp_all (decide := true); done))
      · skip
        refine x_iload_n (i := 0) dX0_slowsTo_63 rfl rfl ?_
        refine x_iconstN (n := 4) dX0_slowsTo_64 ?_
        refine x_icne (tgt := 72) dX0_slowsTo_65 rfl (fun h65 => ?_) (fun h65 => ?_)
        · skip
          refine x_iload_n (i := 1) dX0_slowsTo_72 rfl rfl ?_
          refine x_iconstN (n := 2) dX0_slowsTo_73 ?_
          refine x_idiv dX0_slowsTo_74 (by decide) ?_
          refine y_istore (i := 6) (ls2 := [_, _, _, _, _, _, _]) dX0_slowsTo_75 (by decide) rfl rfl ?_
          refine x_goto (tgt := 123) dX0_slowsTo_77 rfl ?_
          refine x_iload_n (i := 0) dX0_slowsTo_123 rfl rfl ?_
          refine x_iconstN (n := 5) dX0_slowsTo_124 ?_
          refine x_icne (tgt := 139) dX0_slowsTo_125 rfl (fun h125 => ?_) (fun h125 => ?_)
          · skip
            refine x_iload (i := 6) dX0_slowsTo_139 rfl ?_
            exact x_ireti dX0_slowsTo_141 rfl (by first | (simpa (decide := true) [fSlow, fPlain, h2, h7, h21, h65, h125] using hk) | (exfalso; simp_all (decide := true); done))
          · skip
            refine x_iload (i := 6) dX0_slowsTo_128 rfl ?_
            refine x_iconstN (n := 5) dX0_slowsTo_130 ?_
            refine x_iadd dX0_slowsTo_131 ?_
            refine x_iload_n (i := 1) dX0_slowsTo_132 rfl rfl ?_
            refine x_min dX0_slowsTo_133 ml_X0_19 sm_J9_min_7cf53 in_J9 co_J9_min_7cf53 (by decide) (Nat.le_of_ble_eq_true rfl) ?_
            refine x_goto (tgt := 141) dX0_slowsTo_136 rfl ?_
            exact x_ireti dX0_slowsTo_141 rfl (by first | (simpa (decide := true) [fSlow, fPlain, h2, h7, h21, h65, h125] using hk) | (exfalso; simp_all (decide := true); done))
        · skip
          refine x_iload_n (i := 1) dX0_slowsTo_68 rfl rfl ?_
          refine x_goto (tgt := 75) dX0_slowsTo_69 rfl ?_
          refine y_istore (i := 6) (ls2 := [_, _, _, _, _, _, _]) dX0_slowsTo_75 (by decide) rfl rfl ?_
          refine x_goto (tgt := 123) dX0_slowsTo_77 rfl ?_
          refine x_iload_n (i := 0) dX0_slowsTo_123 rfl rfl ?_
          refine x_iconstN (n := 5) dX0_slowsTo_124 ?_
          refine x_icne (tgt := 139) dX0_slowsTo_125 rfl (fun h125 => ?_) (fun h125 => ?_)
          · skip
            refine x_iload (i := 6) dX0_slowsTo_139 rfl ?_
            exact x_ireti dX0_slowsTo_141 rfl (by first | (simpa (decide := true) [fSlow, fPlain, h2, h7, h21, h65, h125] using hk) | (exfalso; simp_all (decide := true); done))
          · skip
            refine x_iload (i := 6) dX0_slowsTo_128 rfl ?_
            refine x_iconstN (n := 5) dX0_slowsTo_130 ?_
            refine x_iadd dX0_slowsTo_131 ?_
            refine x_iload_n (i := 1) dX0_slowsTo_132 rfl rfl ?_
            refine x_min dX0_slowsTo_133 ml_X0_19 sm_J9_min_7cf53 in_J9 co_J9_min_7cf53 (by decide) (Nat.le_of_ble_eq_true rfl) ?_
            refine x_goto (tgt := 141) dX0_slowsTo_136 rfl ?_
            exact x_ireti dX0_slowsTo_141 rfl (by first | (simpa (decide := true) [fSlow, fPlain, h2, h7, h21, h65, h125] using hk) | (exfalso; simp_all (decide := true); done))
      · skip
        refine x_iload (i := 5) dX0_slowsTo_80 rfl ?_
        refine x_ifeq (tgt := 89) dX0_slowsTo_82 rfl (fun h82 => ?_) (fun h82 => ?_)
        · exact absurd h82 (by decide)
        · skip
          refine x_iload_n (i := 1) dX0_slowsTo_85 rfl rfl ?_
          refine x_goto (tgt := 92) dX0_slowsTo_86 rfl ?_
          refine y_istore (i := 6) (ls2 := [_, _, _, _, _, _, _]) dX0_slowsTo_92 (by decide) rfl rfl ?_
          refine x_goto (tgt := 123) dX0_slowsTo_94 rfl ?_
          refine x_iload_n (i := 0) dX0_slowsTo_123 rfl rfl ?_
          refine x_iconstN (n := 5) dX0_slowsTo_124 ?_
          refine x_icne (tgt := 139) dX0_slowsTo_125 rfl (fun h125 => ?_) (fun h125 => ?_)
          · skip
            refine x_iload (i := 6) dX0_slowsTo_139 rfl ?_
            exact x_ireti dX0_slowsTo_141 rfl (by first | (simpa (decide := true) [fSlow, fPlain, h2, h7, h21, h82, h125] using hk) | (exfalso; simp_all (decide := true); done))
          · skip
            refine x_iload (i := 6) dX0_slowsTo_128 rfl ?_
            refine x_iconstN (n := 5) dX0_slowsTo_130 ?_
            refine x_iadd dX0_slowsTo_131 ?_
            refine x_iload_n (i := 1) dX0_slowsTo_132 rfl rfl ?_
            refine x_min dX0_slowsTo_133 ml_X0_19 sm_J9_min_7cf53 in_J9 co_J9_min_7cf53 (by decide) (Nat.le_of_ble_eq_true rfl) ?_
            refine x_goto (tgt := 141) dX0_slowsTo_136 rfl ?_
            exact x_ireti dX0_slowsTo_141 rfl (by first | (simpa (decide := true) [fSlow, fPlain, h2, h7, h21, h82, h125] using hk) | (exfalso; simp_all (decide := true); done))
      · skip
        refine x_iload (i := 5) dX0_slowsTo_97 rfl ?_
        refine x_ifne (tgt := 109) dX0_slowsTo_99 rfl (fun h99 => ?_) (fun h99 => ?_)
        · skip
          refine x_iload_n (i := 1) dX0_slowsTo_109 rfl rfl ?_
          refine x_goto (tgt := 118) dX0_slowsTo_110 rfl ?_
          refine y_istore (i := 6) (ls2 := [_, _, _, _, _, _, _]) dX0_slowsTo_118 (by decide) rfl rfl ?_
          refine x_goto (tgt := 123) dX0_slowsTo_120 rfl ?_
          refine x_iload_n (i := 0) dX0_slowsTo_123 rfl rfl ?_
          refine x_iconstN (n := 5) dX0_slowsTo_124 ?_
          refine x_icne (tgt := 139) dX0_slowsTo_125 rfl (fun h125 => ?_) (fun h125 => ?_)
          · skip
            refine x_iload (i := 6) dX0_slowsTo_139 rfl ?_
            exact x_ireti dX0_slowsTo_141 rfl (by first | (simpa (decide := true) [fSlow, fPlain, h2, h7, h21, h99, h125] using hk) | (exfalso; simp_all (decide := true); done))
          · skip
            refine x_iload (i := 6) dX0_slowsTo_128 rfl ?_
            refine x_iconstN (n := 5) dX0_slowsTo_130 ?_
            refine x_iadd dX0_slowsTo_131 ?_
            refine x_iload_n (i := 1) dX0_slowsTo_132 rfl rfl ?_
            refine x_min dX0_slowsTo_133 ml_X0_19 sm_J9_min_7cf53 in_J9 co_J9_min_7cf53 (by decide) (Nat.le_of_ble_eq_true rfl) ?_
            refine x_goto (tgt := 141) dX0_slowsTo_136 rfl ?_
            exact x_ireti dX0_slowsTo_141 rfl (by first | (simpa (decide := true) [fSlow, fPlain, h2, h7, h21, h99, h125] using hk) | (exfalso; simp_all (decide := true); done))
        · exact absurd h99 (by decide)
      · skip
        refine x_iload_n (i := 0) dX0_slowsTo_123 rfl rfl ?_
        refine x_iconstN (n := 5) dX0_slowsTo_124 ?_
        refine x_icne (tgt := 139) dX0_slowsTo_125 rfl (fun h125 => ?_) (fun h125 => ?_)
        · skip
          refine x_iload (i := 6) dX0_slowsTo_139 rfl ?_
          exact x_ireti dX0_slowsTo_141 rfl (by first | (simpa (decide := true) [fSlow, fPlain, h2, h7, h21_1, h21_2, h21_3, h21_4, h125] using hk) | (exfalso; simp_all (decide := true); done))
        · skip
          refine x_iload (i := 6) dX0_slowsTo_128 rfl ?_
          refine x_iconstN (n := 5) dX0_slowsTo_130 ?_
          refine x_iadd dX0_slowsTo_131 ?_
          refine x_iload_n (i := 1) dX0_slowsTo_132 rfl rfl ?_
          refine x_min dX0_slowsTo_133 ml_X0_19 sm_J9_min_7cf53 in_J9 co_J9_min_7cf53 (by decide) (Nat.le_of_ble_eq_true rfl) ?_
          refine x_goto (tgt := 141) dX0_slowsTo_136 rfl ?_
          exact x_ireti dX0_slowsTo_141 rfl (by first | (simpa (decide := true) [fSlow, fPlain, h2, h7, h21_1, h21_2, h21_3, h21_4, h125] using hk) | (exfalso; simp_all (decide := true); done))
set_option maxHeartbeats 4000000 in
set_option maxRecDepth 20000 in
theorem c_X0_shakes {σ : xH} {K : Int32 → xH → Prop} (k v h : Int32) (hk : K (fShake k v h) σ) : Evi l (oC ad D cy) mX0_shakes [.int k, .int v, .int h] σ K := by
  refine x_enter (ls := [some (.int k), some (.int v), some (.int h), none]) rfl ?_
  refine x_iload_n (i := 1) dX0_shakes_0 rfl rfl ?_
  refine x_iload_n (i := 2) dX0_shakes_1 rfl rfl ?_
  refine x_imul dX0_shakes_2 ?_
  refine x_bipush (v := nI 10) dX0_shakes_3 (by decide) ?_
  refine x_idiv dX0_shakes_5 (by decide) ?_
  refine y_istore_n (i := 3) (ls2 := [_, _, _, _]) dX0_shakes_6 rfl (by decide) rfl rfl ?_
  refine x_iload_n (i := 0) dX0_shakes_7 rfl rfl ?_
  refine x_tsw5 (nI 1) (nI 2) (nI 3) (nI 4) (nI 5) 44 48 56 44 52 56 dX0_shakes_8 (by decide) (by decide) (fun h8 => ?_) (fun h8 => ?_) (fun h8 => ?_) (fun h8 => ?_) (fun h8 => ?_) (fun h8_1 h8_2 h8_3 h8_4 h8_5 => ?_)
  · skip
    refine x_iload_n (i := 3) dX0_shakes_44 rfl rfl ?_
    refine x_iload_n (i := 2) dX0_shakes_45 rfl rfl ?_
    refine x_iadd dX0_shakes_46 ?_
    exact x_ireti dX0_shakes_47 rfl (by first | (simpa (decide := true) [fShake, h8] using hk) | (exfalso; simp_all (decide := true); done))
  · skip
    refine x_iconstN (n := 2) dX0_shakes_48 ?_
    refine x_iload_n (i := 3) dX0_shakes_49 rfl rfl ?_
    refine x_imul dX0_shakes_50 ?_
    exact x_ireti dX0_shakes_51 rfl (by first | (simpa (decide := true) [fShake, h8] using hk) | (exfalso; simp_all (decide := true); done))
  · skip
    refine x_iload_n (i := 3) dX0_shakes_56 rfl rfl ?_
    exact x_ireti dX0_shakes_57 rfl (by first | (simpa (decide := true) [fShake, h8] using hk) | (exfalso; simp_all (decide := true); done))
  · skip
    refine x_iload_n (i := 3) dX0_shakes_44 rfl rfl ?_
    refine x_iload_n (i := 2) dX0_shakes_45 rfl rfl ?_
    refine x_iadd dX0_shakes_46 ?_
    exact x_ireti dX0_shakes_47 rfl (by first | (simpa (decide := true) [fShake, h8] using hk) | (exfalso; simp_all (decide := true); done))
  · skip
    refine x_iload_n (i := 3) dX0_shakes_52 rfl rfl ?_
    refine x_iconstN (n := 1) dX0_shakes_53 ?_
    refine x_iadd dX0_shakes_54 ?_
    exact x_ireti dX0_shakes_55 rfl (by first | (simpa (decide := true) [fShake, h8] using hk) | (exfalso; simp_all (decide := true); done))
  · skip
    refine x_iload_n (i := 3) dX0_shakes_56 rfl rfl ?_
    exact x_ireti dX0_shakes_57 rfl (by first | (simpa (decide := true) [fShake, h8_1, h8_2, h8_3, h8_4, h8_5] using hk) | (exfalso; simp_all (decide := true); done))
end
