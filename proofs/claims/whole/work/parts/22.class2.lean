section
variable {l : Launch} {ad : Nat → Nat} {D : va_G} {cy : Nat → ClassId}
set_option maxHeartbeats 4000000 in
set_option maxRecDepth 20000 in
theorem c_X0_above_0 {σ : xH} {K : Int32 → xH → Prop}  (hk : K (-1) σ) : Evi l (oC ad D cy) mX0_above [.int (nI 0)] σ K := by
  refine x_enter (ls := [some (.int (nI 0))]) rfl ?_
  refine x_iload_n (i := 0) dX0_above_0 rfl rfl ?_
  refine x_tsw5 (nI 1) (nI 2) (nI 3) (nI 4) (nI 5) 36 36 36 38 40 42 dX0_above_1 (by decide) (by decide) (fun h1 => ?_) (fun h1 => ?_) (fun h1 => ?_) (fun h1 => ?_) (fun h1 => ?_) (fun h1_1 h1_2 h1_3 h1_4 h1_5 => ?_)
  · exact absurd h1 (by decide)
  · exact absurd h1 (by decide)
  · exact absurd h1 (by decide)
  · exact absurd h1 (by decide)
  · exact absurd h1 (by decide)
  · skip
    refine x_iconst (v := -1) dX0_above_42 (by decide) ?_
    exact x_ireti dX0_above_43 rfl hk
set_option maxHeartbeats 4000000 in
set_option maxRecDepth 20000 in
theorem c_X0_above_1 {σ : xH} {K : Int32 → xH → Prop}  (hk : K (nI 0) σ) : Evi l (oC ad D cy) mX0_above [.int (nI 1)] σ K := by
  refine x_enter (ls := [some (.int (nI 1))]) rfl ?_
  refine x_iload_n (i := 0) dX0_above_0 rfl rfl ?_
  refine x_tsw5 (nI 1) (nI 2) (nI 3) (nI 4) (nI 5) 36 36 36 38 40 42 dX0_above_1 (by decide) (by decide) (fun h1 => ?_) (fun h1 => ?_) (fun h1 => ?_) (fun h1 => ?_) (fun h1 => ?_) (fun h1_1 h1_2 h1_3 h1_4 h1_5 => ?_)
  · skip
    refine x_iconstN (n := 0) dX0_above_36 ?_
    exact x_ireti dX0_above_37 rfl hk
  · exact absurd h1 (by decide)
  · exact absurd h1 (by decide)
  · exact absurd h1 (by decide)
  · exact absurd h1 (by decide)
  · exact absurd rfl h1_1
set_option maxHeartbeats 4000000 in
set_option maxRecDepth 20000 in
theorem c_X0_above_2 {σ : xH} {K : Int32 → xH → Prop}  (hk : K (nI 0) σ) : Evi l (oC ad D cy) mX0_above [.int (nI 2)] σ K := by
  refine x_enter (ls := [some (.int (nI 2))]) rfl ?_
  refine x_iload_n (i := 0) dX0_above_0 rfl rfl ?_
  refine x_tsw5 (nI 1) (nI 2) (nI 3) (nI 4) (nI 5) 36 36 36 38 40 42 dX0_above_1 (by decide) (by decide) (fun h1 => ?_) (fun h1 => ?_) (fun h1 => ?_) (fun h1 => ?_) (fun h1 => ?_) (fun h1_1 h1_2 h1_3 h1_4 h1_5 => ?_)
  · exact absurd h1 (by decide)
  · skip
    refine x_iconstN (n := 0) dX0_above_36 ?_
    exact x_ireti dX0_above_37 rfl hk
  · exact absurd h1 (by decide)
  · exact absurd h1 (by decide)
  · exact absurd h1 (by decide)
  · exact absurd rfl h1_2
set_option maxHeartbeats 4000000 in
set_option maxRecDepth 20000 in
theorem c_X0_above_3 {σ : xH} {K : Int32 → xH → Prop}  (hk : K (nI 0) σ) : Evi l (oC ad D cy) mX0_above [.int (nI 3)] σ K := by
  refine x_enter (ls := [some (.int (nI 3))]) rfl ?_
  refine x_iload_n (i := 0) dX0_above_0 rfl rfl ?_
  refine x_tsw5 (nI 1) (nI 2) (nI 3) (nI 4) (nI 5) 36 36 36 38 40 42 dX0_above_1 (by decide) (by decide) (fun h1 => ?_) (fun h1 => ?_) (fun h1 => ?_) (fun h1 => ?_) (fun h1 => ?_) (fun h1_1 h1_2 h1_3 h1_4 h1_5 => ?_)
  · exact absurd h1 (by decide)
  · exact absurd h1 (by decide)
  · skip
    refine x_iconstN (n := 0) dX0_above_36 ?_
    exact x_ireti dX0_above_37 rfl hk
  · exact absurd h1 (by decide)
  · exact absurd h1 (by decide)
  · exact absurd rfl h1_3
set_option maxHeartbeats 4000000 in
set_option maxRecDepth 20000 in
theorem c_X0_above_4 {σ : xH} {K : Int32 → xH → Prop}  (hk : K (nI 1) σ) : Evi l (oC ad D cy) mX0_above [.int (nI 4)] σ K := by
  refine x_enter (ls := [some (.int (nI 4))]) rfl ?_
  refine x_iload_n (i := 0) dX0_above_0 rfl rfl ?_
  refine x_tsw5 (nI 1) (nI 2) (nI 3) (nI 4) (nI 5) 36 36 36 38 40 42 dX0_above_1 (by decide) (by decide) (fun h1 => ?_) (fun h1 => ?_) (fun h1 => ?_) (fun h1 => ?_) (fun h1 => ?_) (fun h1_1 h1_2 h1_3 h1_4 h1_5 => ?_)
  · exact absurd h1 (by decide)
  · exact absurd h1 (by decide)
  · exact absurd h1 (by decide)
  · skip
    refine x_iconstN (n := 1) dX0_above_38 ?_
    exact x_ireti dX0_above_39 rfl hk
  · exact absurd h1 (by decide)
  · exact absurd rfl h1_4
set_option maxHeartbeats 4000000 in
set_option maxRecDepth 20000 in
theorem c_X0_above_5 {σ : xH} {K : Int32 → xH → Prop}  (hk : K (nI 3) σ) : Evi l (oC ad D cy) mX0_above [.int (nI 5)] σ K := by
  refine x_enter (ls := [some (.int (nI 5))]) rfl ?_
  refine x_iload_n (i := 0) dX0_above_0 rfl rfl ?_
  refine x_tsw5 (nI 1) (nI 2) (nI 3) (nI 4) (nI 5) 36 36 36 38 40 42 dX0_above_1 (by decide) (by decide) (fun h1 => ?_) (fun h1 => ?_) (fun h1 => ?_) (fun h1 => ?_) (fun h1 => ?_) (fun h1_1 h1_2 h1_3 h1_4 h1_5 => ?_)
  · exact absurd h1 (by decide)
  · exact absurd h1 (by decide)
  · exact absurd h1 (by decide)
  · exact absurd h1 (by decide)
  · skip
    refine x_iconstN (n := 3) dX0_above_40 ?_
    exact x_ireti dX0_above_41 rfl hk
  · exact absurd rfl h1_5
set_option maxHeartbeats 4000000 in
set_option maxRecDepth 20000 in
theorem c_X0_isOf_0 {σ : xH} {K : Int32 → xH → Prop} {o : Nat} (ho : o < 6) (hk : K (xb (fOfN 0 o = true)) σ) : Evi l (oC ad D cy) mX0_isOf [.int (nI 0), .int (nI o)] σ K := by
  refine x_enter (ls := [some (.int (nI 0)), some (.int (nI o)), none, none]) rfl ?_
  refine x_iload_n (i := 0) dX0_isOf_0 rfl rfl ?_
  refine y_istore_n (i := 2) (ls2 := [_, _, _, _]) dX0_isOf_1 rfl (by decide) rfl rfl ?_
  refine x_iconstN (n := 0) dX0_isOf_2 ?_
  refine y_istore_n (i := 3) (ls2 := [_, _, _, _]) dX0_isOf_3 rfl (by decide) rfl rfl ?_
  refine x_iload_n (i := 3) dX0_isOf_4 rfl rfl ?_
  refine x_bipush (v := nI 6) dX0_isOf_5 (by decide) ?_
  refine x_icgeN (tgt := 32) (by omega) (by omega) dX0_isOf_7 rfl (fun h7 => ?_) (fun h7 => ?_)
  · exact absurd h7 (by decide)
  · skip
    refine x_iload_n (i := 2) dX0_isOf_10 rfl rfl ?_
    refine x_iflt (tgt := 32) dX0_isOf_11 rfl (fun h11 => ?_) (fun h11 => ?_)
    · exact absurd h11 (by decide)
    · skip
      refine x_iload_n (i := 2) dX0_isOf_14 rfl rfl ?_
      refine x_iload_n (i := 1) dX0_isOf_15 rfl rfl ?_
      refine x_icneN (tgt := 21) (by omega) (by omega) dX0_isOf_16 rfl (fun h16 => ?_) (fun h16 => ?_)
      · skip
        refine x_iload_n (i := 2) dX0_isOf_21 rfl rfl ?_
        refine x_s1i dX0_isOf_22 okX0_above ml_X0_9 (Nat.le_of_ble_eq_true rfl) ⟨by decide, by decide⟩ (Nat.le_of_ble_eq_true rfl) (c_X0_above_0 ?_)
        refine y_istore_n (i := 2) (ls2 := [_, _, _, _]) dX0_isOf_25 rfl (by decide) rfl rfl ?_
        refine y_iincN (i := 3) (ls2 := [_, _, _, _]) dX0_isOf_26 rfl (by decide) rfl rfl ?_
        refine x_goto (tgt := 4) dX0_isOf_29 rfl ?_
        refine x_iload_n (i := 3) dX0_isOf_4 rfl rfl ?_
        refine x_bipush (v := nI 6) dX0_isOf_5 (by decide) ?_
        refine x_icgeN (tgt := 32) (by omega) (by omega) dX0_isOf_7 rfl (fun h7_1 => ?_) (fun h7_1 => ?_)
        · exact absurd h7_1 (by decide)
        · skip
          refine x_iload_n (i := 2) dX0_isOf_10 rfl rfl ?_
          refine x_iflt (tgt := 32) dX0_isOf_11 rfl (fun h11_1 => ?_) (fun h11_1 => ?_)
          · skip
            refine x_iconstN (n := 0) dX0_isOf_32 ?_
            exact x_iretz dX0_isOf_33 rfl (by decide) (by rw [xb_f (show ¬ fOfN 0 o = true by simp [fOfN]; omega)] at hk; exact hk)
          · exact absurd h11_1 (by decide)
      · skip
        refine x_iconstN (n := 1) dX0_isOf_19 ?_
        exact x_iretz dX0_isOf_20 rfl (by decide) (by rw [xb_t (show fOfN 0 o = true by subst h16; decide)] at hk; exact hk)
set_option maxHeartbeats 4000000 in
set_option maxRecDepth 20000 in
theorem c_X0_isOf_1 {σ : xH} {K : Int32 → xH → Prop} {o : Nat} (ho : o < 6) (hk : K (xb (fOfN 1 o = true)) σ) : Evi l (oC ad D cy) mX0_isOf [.int (nI 1), .int (nI o)] σ K := by
  refine x_enter (ls := [some (.int (nI 1)), some (.int (nI o)), none, none]) rfl ?_
  refine x_iload_n (i := 0) dX0_isOf_0 rfl rfl ?_
  refine y_istore_n (i := 2) (ls2 := [_, _, _, _]) dX0_isOf_1 rfl (by decide) rfl rfl ?_
  refine x_iconstN (n := 0) dX0_isOf_2 ?_
  refine y_istore_n (i := 3) (ls2 := [_, _, _, _]) dX0_isOf_3 rfl (by decide) rfl rfl ?_
  refine x_iload_n (i := 3) dX0_isOf_4 rfl rfl ?_
  refine x_bipush (v := nI 6) dX0_isOf_5 (by decide) ?_
  refine x_icgeN (tgt := 32) (by omega) (by omega) dX0_isOf_7 rfl (fun h7 => ?_) (fun h7 => ?_)
  · exact absurd h7 (by decide)
  · skip
    refine x_iload_n (i := 2) dX0_isOf_10 rfl rfl ?_
    refine x_iflt (tgt := 32) dX0_isOf_11 rfl (fun h11 => ?_) (fun h11 => ?_)
    · exact absurd h11 (by decide)
    · skip
      refine x_iload_n (i := 2) dX0_isOf_14 rfl rfl ?_
      refine x_iload_n (i := 1) dX0_isOf_15 rfl rfl ?_
      refine x_icneN (tgt := 21) (by omega) (by omega) dX0_isOf_16 rfl (fun h16 => ?_) (fun h16 => ?_)
      · skip
        refine x_iload_n (i := 2) dX0_isOf_21 rfl rfl ?_
        refine x_s1i dX0_isOf_22 okX0_above ml_X0_9 (Nat.le_of_ble_eq_true rfl) ⟨by decide, by decide⟩ (Nat.le_of_ble_eq_true rfl) (c_X0_above_1 ?_)
        refine y_istore_n (i := 2) (ls2 := [_, _, _, _]) dX0_isOf_25 rfl (by decide) rfl rfl ?_
        refine y_iincN (i := 3) (ls2 := [_, _, _, _]) dX0_isOf_26 rfl (by decide) rfl rfl ?_
        refine x_goto (tgt := 4) dX0_isOf_29 rfl ?_
        refine x_iload_n (i := 3) dX0_isOf_4 rfl rfl ?_
        refine x_bipush (v := nI 6) dX0_isOf_5 (by decide) ?_
        refine x_icgeN (tgt := 32) (by omega) (by omega) dX0_isOf_7 rfl (fun h7_1 => ?_) (fun h7_1 => ?_)
        · exact absurd h7_1 (by decide)
        · skip
          refine x_iload_n (i := 2) dX0_isOf_10 rfl rfl ?_
          refine x_iflt (tgt := 32) dX0_isOf_11 rfl (fun h11_1 => ?_) (fun h11_1 => ?_)
          · exact absurd h11_1 (by decide)
          · skip
            refine x_iload_n (i := 2) dX0_isOf_14 rfl rfl ?_
            refine x_iload_n (i := 1) dX0_isOf_15 rfl rfl ?_
            refine x_icneN (tgt := 21) (by omega) (by omega) dX0_isOf_16 rfl (fun h16_1 => ?_) (fun h16_1 => ?_)
            · skip
              refine x_iload_n (i := 2) dX0_isOf_21 rfl rfl ?_
              refine x_s1i dX0_isOf_22 okX0_above ml_X0_9 (Nat.le_of_ble_eq_true rfl) ⟨by decide, by decide⟩ (Nat.le_of_ble_eq_true rfl) (c_X0_above_0 ?_)
              refine y_istore_n (i := 2) (ls2 := [_, _, _, _]) dX0_isOf_25 rfl (by decide) rfl rfl ?_
              refine y_iincN (i := 3) (ls2 := [_, _, _, _]) dX0_isOf_26 rfl (by decide) rfl rfl ?_
              refine x_goto (tgt := 4) dX0_isOf_29 rfl ?_
              refine x_iload_n (i := 3) dX0_isOf_4 rfl rfl ?_
              refine x_bipush (v := nI 6) dX0_isOf_5 (by decide) ?_
              refine x_icgeN (tgt := 32) (by omega) (by omega) dX0_isOf_7 rfl (fun h7_2 => ?_) (fun h7_2 => ?_)
              · exact absurd h7_2 (by decide)
              · skip
                refine x_iload_n (i := 2) dX0_isOf_10 rfl rfl ?_
                refine x_iflt (tgt := 32) dX0_isOf_11 rfl (fun h11_2 => ?_) (fun h11_2 => ?_)
                · skip
                  refine x_iconstN (n := 0) dX0_isOf_32 ?_
                  exact x_iretz dX0_isOf_33 rfl (by decide) (by rw [xb_f (show ¬ fOfN 1 o = true by simp [fOfN]; omega)] at hk; exact hk)
                · exact absurd h11_2 (by decide)
            · skip
              refine x_iconstN (n := 1) dX0_isOf_19 ?_
              exact x_iretz dX0_isOf_20 rfl (by decide) (by rw [xb_t (show fOfN 1 o = true by subst h16_1; decide)] at hk; exact hk)
      · skip
        refine x_iconstN (n := 1) dX0_isOf_19 ?_
        exact x_iretz dX0_isOf_20 rfl (by decide) (by rw [xb_t (show fOfN 1 o = true by subst h16; decide)] at hk; exact hk)
set_option maxHeartbeats 4000000 in
set_option maxRecDepth 20000 in
theorem c_X0_isOf_2 {σ : xH} {K : Int32 → xH → Prop} {o : Nat} (ho : o < 6) (hk : K (xb (fOfN 2 o = true)) σ) : Evi l (oC ad D cy) mX0_isOf [.int (nI 2), .int (nI o)] σ K := by
  refine x_enter (ls := [some (.int (nI 2)), some (.int (nI o)), none, none]) rfl ?_
  refine x_iload_n (i := 0) dX0_isOf_0 rfl rfl ?_
  refine y_istore_n (i := 2) (ls2 := [_, _, _, _]) dX0_isOf_1 rfl (by decide) rfl rfl ?_
  refine x_iconstN (n := 0) dX0_isOf_2 ?_
  refine y_istore_n (i := 3) (ls2 := [_, _, _, _]) dX0_isOf_3 rfl (by decide) rfl rfl ?_
  refine x_iload_n (i := 3) dX0_isOf_4 rfl rfl ?_
  refine x_bipush (v := nI 6) dX0_isOf_5 (by decide) ?_
  refine x_icgeN (tgt := 32) (by omega) (by omega) dX0_isOf_7 rfl (fun h7 => ?_) (fun h7 => ?_)
  · exact absurd h7 (by decide)
  · skip
    refine x_iload_n (i := 2) dX0_isOf_10 rfl rfl ?_
    refine x_iflt (tgt := 32) dX0_isOf_11 rfl (fun h11 => ?_) (fun h11 => ?_)
    · exact absurd h11 (by decide)
    · skip
      refine x_iload_n (i := 2) dX0_isOf_14 rfl rfl ?_
      refine x_iload_n (i := 1) dX0_isOf_15 rfl rfl ?_
      refine x_icneN (tgt := 21) (by omega) (by omega) dX0_isOf_16 rfl (fun h16 => ?_) (fun h16 => ?_)
      · skip
        refine x_iload_n (i := 2) dX0_isOf_21 rfl rfl ?_
        refine x_s1i dX0_isOf_22 okX0_above ml_X0_9 (Nat.le_of_ble_eq_true rfl) ⟨by decide, by decide⟩ (Nat.le_of_ble_eq_true rfl) (c_X0_above_2 ?_)
        refine y_istore_n (i := 2) (ls2 := [_, _, _, _]) dX0_isOf_25 rfl (by decide) rfl rfl ?_
        refine y_iincN (i := 3) (ls2 := [_, _, _, _]) dX0_isOf_26 rfl (by decide) rfl rfl ?_
        refine x_goto (tgt := 4) dX0_isOf_29 rfl ?_
        refine x_iload_n (i := 3) dX0_isOf_4 rfl rfl ?_
        refine x_bipush (v := nI 6) dX0_isOf_5 (by decide) ?_
        refine x_icgeN (tgt := 32) (by omega) (by omega) dX0_isOf_7 rfl (fun h7_1 => ?_) (fun h7_1 => ?_)
        · exact absurd h7_1 (by decide)
        · skip
          refine x_iload_n (i := 2) dX0_isOf_10 rfl rfl ?_
          refine x_iflt (tgt := 32) dX0_isOf_11 rfl (fun h11_1 => ?_) (fun h11_1 => ?_)
          · exact absurd h11_1 (by decide)
          · skip
            refine x_iload_n (i := 2) dX0_isOf_14 rfl rfl ?_
            refine x_iload_n (i := 1) dX0_isOf_15 rfl rfl ?_
            refine x_icneN (tgt := 21) (by omega) (by omega) dX0_isOf_16 rfl (fun h16_1 => ?_) (fun h16_1 => ?_)
            · skip
              refine x_iload_n (i := 2) dX0_isOf_21 rfl rfl ?_
              refine x_s1i dX0_isOf_22 okX0_above ml_X0_9 (Nat.le_of_ble_eq_true rfl) ⟨by decide, by decide⟩ (Nat.le_of_ble_eq_true rfl) (c_X0_above_0 ?_)
              refine y_istore_n (i := 2) (ls2 := [_, _, _, _]) dX0_isOf_25 rfl (by decide) rfl rfl ?_
              refine y_iincN (i := 3) (ls2 := [_, _, _, _]) dX0_isOf_26 rfl (by decide) rfl rfl ?_
              refine x_goto (tgt := 4) dX0_isOf_29 rfl ?_
              refine x_iload_n (i := 3) dX0_isOf_4 rfl rfl ?_
              refine x_bipush (v := nI 6) dX0_isOf_5 (by decide) ?_
              refine x_icgeN (tgt := 32) (by omega) (by omega) dX0_isOf_7 rfl (fun h7_2 => ?_) (fun h7_2 => ?_)
              · exact absurd h7_2 (by decide)
              · skip
                refine x_iload_n (i := 2) dX0_isOf_10 rfl rfl ?_
                refine x_iflt (tgt := 32) dX0_isOf_11 rfl (fun h11_2 => ?_) (fun h11_2 => ?_)
                · skip
                  refine x_iconstN (n := 0) dX0_isOf_32 ?_
                  exact x_iretz dX0_isOf_33 rfl (by decide) (by rw [xb_f (show ¬ fOfN 2 o = true by simp [fOfN]; omega)] at hk; exact hk)
                · exact absurd h11_2 (by decide)
            · skip
              refine x_iconstN (n := 1) dX0_isOf_19 ?_
              exact x_iretz dX0_isOf_20 rfl (by decide) (by rw [xb_t (show fOfN 2 o = true by subst h16_1; decide)] at hk; exact hk)
      · skip
        refine x_iconstN (n := 1) dX0_isOf_19 ?_
        exact x_iretz dX0_isOf_20 rfl (by decide) (by rw [xb_t (show fOfN 2 o = true by subst h16; decide)] at hk; exact hk)
set_option maxHeartbeats 4000000 in
set_option maxRecDepth 20000 in
theorem c_X0_isOf_3 {σ : xH} {K : Int32 → xH → Prop} {o : Nat} (ho : o < 6) (hk : K (xb (fOfN 3 o = true)) σ) : Evi l (oC ad D cy) mX0_isOf [.int (nI 3), .int (nI o)] σ K := by
  refine x_enter (ls := [some (.int (nI 3)), some (.int (nI o)), none, none]) rfl ?_
  refine x_iload_n (i := 0) dX0_isOf_0 rfl rfl ?_
  refine y_istore_n (i := 2) (ls2 := [_, _, _, _]) dX0_isOf_1 rfl (by decide) rfl rfl ?_
  refine x_iconstN (n := 0) dX0_isOf_2 ?_
  refine y_istore_n (i := 3) (ls2 := [_, _, _, _]) dX0_isOf_3 rfl (by decide) rfl rfl ?_
  refine x_iload_n (i := 3) dX0_isOf_4 rfl rfl ?_
  refine x_bipush (v := nI 6) dX0_isOf_5 (by decide) ?_
  refine x_icgeN (tgt := 32) (by omega) (by omega) dX0_isOf_7 rfl (fun h7 => ?_) (fun h7 => ?_)
  · exact absurd h7 (by decide)
  · skip
    refine x_iload_n (i := 2) dX0_isOf_10 rfl rfl ?_
    refine x_iflt (tgt := 32) dX0_isOf_11 rfl (fun h11 => ?_) (fun h11 => ?_)
    · exact absurd h11 (by decide)
    · skip
      refine x_iload_n (i := 2) dX0_isOf_14 rfl rfl ?_
      refine x_iload_n (i := 1) dX0_isOf_15 rfl rfl ?_
      refine x_icneN (tgt := 21) (by omega) (by omega) dX0_isOf_16 rfl (fun h16 => ?_) (fun h16 => ?_)
      · skip
        refine x_iload_n (i := 2) dX0_isOf_21 rfl rfl ?_
        refine x_s1i dX0_isOf_22 okX0_above ml_X0_9 (Nat.le_of_ble_eq_true rfl) ⟨by decide, by decide⟩ (Nat.le_of_ble_eq_true rfl) (c_X0_above_3 ?_)
        refine y_istore_n (i := 2) (ls2 := [_, _, _, _]) dX0_isOf_25 rfl (by decide) rfl rfl ?_
        refine y_iincN (i := 3) (ls2 := [_, _, _, _]) dX0_isOf_26 rfl (by decide) rfl rfl ?_
        refine x_goto (tgt := 4) dX0_isOf_29 rfl ?_
        refine x_iload_n (i := 3) dX0_isOf_4 rfl rfl ?_
        refine x_bipush (v := nI 6) dX0_isOf_5 (by decide) ?_
        refine x_icgeN (tgt := 32) (by omega) (by omega) dX0_isOf_7 rfl (fun h7_1 => ?_) (fun h7_1 => ?_)
        · exact absurd h7_1 (by decide)
        · skip
          refine x_iload_n (i := 2) dX0_isOf_10 rfl rfl ?_
          refine x_iflt (tgt := 32) dX0_isOf_11 rfl (fun h11_1 => ?_) (fun h11_1 => ?_)
          · exact absurd h11_1 (by decide)
          · skip
            refine x_iload_n (i := 2) dX0_isOf_14 rfl rfl ?_
            refine x_iload_n (i := 1) dX0_isOf_15 rfl rfl ?_
            refine x_icneN (tgt := 21) (by omega) (by omega) dX0_isOf_16 rfl (fun h16_1 => ?_) (fun h16_1 => ?_)
            · skip
              refine x_iload_n (i := 2) dX0_isOf_21 rfl rfl ?_
              refine x_s1i dX0_isOf_22 okX0_above ml_X0_9 (Nat.le_of_ble_eq_true rfl) ⟨by decide, by decide⟩ (Nat.le_of_ble_eq_true rfl) (c_X0_above_0 ?_)
              refine y_istore_n (i := 2) (ls2 := [_, _, _, _]) dX0_isOf_25 rfl (by decide) rfl rfl ?_
              refine y_iincN (i := 3) (ls2 := [_, _, _, _]) dX0_isOf_26 rfl (by decide) rfl rfl ?_
              refine x_goto (tgt := 4) dX0_isOf_29 rfl ?_
              refine x_iload_n (i := 3) dX0_isOf_4 rfl rfl ?_
              refine x_bipush (v := nI 6) dX0_isOf_5 (by decide) ?_
              refine x_icgeN (tgt := 32) (by omega) (by omega) dX0_isOf_7 rfl (fun h7_2 => ?_) (fun h7_2 => ?_)
              · exact absurd h7_2 (by decide)
              · skip
                refine x_iload_n (i := 2) dX0_isOf_10 rfl rfl ?_
                refine x_iflt (tgt := 32) dX0_isOf_11 rfl (fun h11_2 => ?_) (fun h11_2 => ?_)
                · skip
                  refine x_iconstN (n := 0) dX0_isOf_32 ?_
                  exact x_iretz dX0_isOf_33 rfl (by decide) (by rw [xb_f (show ¬ fOfN 3 o = true by simp [fOfN]; omega)] at hk; exact hk)
                · exact absurd h11_2 (by decide)
            · skip
              refine x_iconstN (n := 1) dX0_isOf_19 ?_
              exact x_iretz dX0_isOf_20 rfl (by decide) (by rw [xb_t (show fOfN 3 o = true by subst h16_1; decide)] at hk; exact hk)
      · skip
        refine x_iconstN (n := 1) dX0_isOf_19 ?_
        exact x_iretz dX0_isOf_20 rfl (by decide) (by rw [xb_t (show fOfN 3 o = true by subst h16; decide)] at hk; exact hk)
set_option maxHeartbeats 4000000 in
set_option maxRecDepth 20000 in
theorem c_X0_isOf_4 {σ : xH} {K : Int32 → xH → Prop} {o : Nat} (ho : o < 6) (hk : K (xb (fOfN 4 o = true)) σ) : Evi l (oC ad D cy) mX0_isOf [.int (nI 4), .int (nI o)] σ K := by
  refine x_enter (ls := [some (.int (nI 4)), some (.int (nI o)), none, none]) rfl ?_
  refine x_iload_n (i := 0) dX0_isOf_0 rfl rfl ?_
  refine y_istore_n (i := 2) (ls2 := [_, _, _, _]) dX0_isOf_1 rfl (by decide) rfl rfl ?_
  refine x_iconstN (n := 0) dX0_isOf_2 ?_
  refine y_istore_n (i := 3) (ls2 := [_, _, _, _]) dX0_isOf_3 rfl (by decide) rfl rfl ?_
  refine x_iload_n (i := 3) dX0_isOf_4 rfl rfl ?_
  refine x_bipush (v := nI 6) dX0_isOf_5 (by decide) ?_
  refine x_icgeN (tgt := 32) (by omega) (by omega) dX0_isOf_7 rfl (fun h7 => ?_) (fun h7 => ?_)
  · exact absurd h7 (by decide)
  · skip
    refine x_iload_n (i := 2) dX0_isOf_10 rfl rfl ?_
    refine x_iflt (tgt := 32) dX0_isOf_11 rfl (fun h11 => ?_) (fun h11 => ?_)
    · exact absurd h11 (by decide)
    · skip
      refine x_iload_n (i := 2) dX0_isOf_14 rfl rfl ?_
      refine x_iload_n (i := 1) dX0_isOf_15 rfl rfl ?_
      refine x_icneN (tgt := 21) (by omega) (by omega) dX0_isOf_16 rfl (fun h16 => ?_) (fun h16 => ?_)
      · skip
        refine x_iload_n (i := 2) dX0_isOf_21 rfl rfl ?_
        refine x_s1i dX0_isOf_22 okX0_above ml_X0_9 (Nat.le_of_ble_eq_true rfl) ⟨by decide, by decide⟩ (Nat.le_of_ble_eq_true rfl) (c_X0_above_4 ?_)
        refine y_istore_n (i := 2) (ls2 := [_, _, _, _]) dX0_isOf_25 rfl (by decide) rfl rfl ?_
        refine y_iincN (i := 3) (ls2 := [_, _, _, _]) dX0_isOf_26 rfl (by decide) rfl rfl ?_
        refine x_goto (tgt := 4) dX0_isOf_29 rfl ?_
        refine x_iload_n (i := 3) dX0_isOf_4 rfl rfl ?_
        refine x_bipush (v := nI 6) dX0_isOf_5 (by decide) ?_
        refine x_icgeN (tgt := 32) (by omega) (by omega) dX0_isOf_7 rfl (fun h7_1 => ?_) (fun h7_1 => ?_)
        · exact absurd h7_1 (by decide)
        · skip
          refine x_iload_n (i := 2) dX0_isOf_10 rfl rfl ?_
          refine x_iflt (tgt := 32) dX0_isOf_11 rfl (fun h11_1 => ?_) (fun h11_1 => ?_)
          · exact absurd h11_1 (by decide)
          · skip
            refine x_iload_n (i := 2) dX0_isOf_14 rfl rfl ?_
            refine x_iload_n (i := 1) dX0_isOf_15 rfl rfl ?_
            refine x_icneN (tgt := 21) (by omega) (by omega) dX0_isOf_16 rfl (fun h16_1 => ?_) (fun h16_1 => ?_)
            · skip
              refine x_iload_n (i := 2) dX0_isOf_21 rfl rfl ?_
              refine x_s1i dX0_isOf_22 okX0_above ml_X0_9 (Nat.le_of_ble_eq_true rfl) ⟨by decide, by decide⟩ (Nat.le_of_ble_eq_true rfl) (c_X0_above_1 ?_)
              refine y_istore_n (i := 2) (ls2 := [_, _, _, _]) dX0_isOf_25 rfl (by decide) rfl rfl ?_
              refine y_iincN (i := 3) (ls2 := [_, _, _, _]) dX0_isOf_26 rfl (by decide) rfl rfl ?_
              refine x_goto (tgt := 4) dX0_isOf_29 rfl ?_
              refine x_iload_n (i := 3) dX0_isOf_4 rfl rfl ?_
              refine x_bipush (v := nI 6) dX0_isOf_5 (by decide) ?_
              refine x_icgeN (tgt := 32) (by omega) (by omega) dX0_isOf_7 rfl (fun h7_2 => ?_) (fun h7_2 => ?_)
              · exact absurd h7_2 (by decide)
              · skip
                refine x_iload_n (i := 2) dX0_isOf_10 rfl rfl ?_
                refine x_iflt (tgt := 32) dX0_isOf_11 rfl (fun h11_2 => ?_) (fun h11_2 => ?_)
                · exact absurd h11_2 (by decide)
                · skip
                  refine x_iload_n (i := 2) dX0_isOf_14 rfl rfl ?_
                  refine x_iload_n (i := 1) dX0_isOf_15 rfl rfl ?_
                  refine x_icneN (tgt := 21) (by omega) (by omega) dX0_isOf_16 rfl (fun h16_2 => ?_) (fun h16_2 => ?_)
                  · skip
                    refine x_iload_n (i := 2) dX0_isOf_21 rfl rfl ?_
                    refine x_s1i dX0_isOf_22 okX0_above ml_X0_9 (Nat.le_of_ble_eq_true rfl) ⟨by decide, by decide⟩ (Nat.le_of_ble_eq_true rfl) (c_X0_above_0 ?_)
                    refine y_istore_n (i := 2) (ls2 := [_, _, _, _]) dX0_isOf_25 rfl (by decide) rfl rfl ?_
                    refine y_iincN (i := 3) (ls2 := [_, _, _, _]) dX0_isOf_26 rfl (by decide) rfl rfl ?_
                    refine x_goto (tgt := 4) dX0_isOf_29 rfl ?_
                    refine x_iload_n (i := 3) dX0_isOf_4 rfl rfl ?_
                    refine x_bipush (v := nI 6) dX0_isOf_5 (by decide) ?_
                    refine x_icgeN (tgt := 32) (by omega) (by omega) dX0_isOf_7 rfl (fun h7_3 => ?_) (fun h7_3 => ?_)
                    · exact absurd h7_3 (by decide)
                    · skip
                      refine x_iload_n (i := 2) dX0_isOf_10 rfl rfl ?_
                      refine x_iflt (tgt := 32) dX0_isOf_11 rfl (fun h11_3 => ?_) (fun h11_3 => ?_)
                      · skip
                        refine x_iconstN (n := 0) dX0_isOf_32 ?_
                        exact x_iretz dX0_isOf_33 rfl (by decide) (by rw [xb_f (show ¬ fOfN 4 o = true by simp [fOfN]; omega)] at hk; exact hk)
                      · exact absurd h11_3 (by decide)
                  · skip
                    refine x_iconstN (n := 1) dX0_isOf_19 ?_
                    exact x_iretz dX0_isOf_20 rfl (by decide) (by rw [xb_t (show fOfN 4 o = true by subst h16_2; decide)] at hk; exact hk)
            · skip
              refine x_iconstN (n := 1) dX0_isOf_19 ?_
              exact x_iretz dX0_isOf_20 rfl (by decide) (by rw [xb_t (show fOfN 4 o = true by subst h16_1; decide)] at hk; exact hk)
      · skip
        refine x_iconstN (n := 1) dX0_isOf_19 ?_
        exact x_iretz dX0_isOf_20 rfl (by decide) (by rw [xb_t (show fOfN 4 o = true by subst h16; decide)] at hk; exact hk)
set_option maxHeartbeats 4000000 in
set_option maxRecDepth 20000 in
theorem c_X0_isOf_5 {σ : xH} {K : Int32 → xH → Prop} {o : Nat} (ho : o < 6) (hk : K (xb (fOfN 5 o = true)) σ) : Evi l (oC ad D cy) mX0_isOf [.int (nI 5), .int (nI o)] σ K := by
  refine x_enter (ls := [some (.int (nI 5)), some (.int (nI o)), none, none]) rfl ?_
  refine x_iload_n (i := 0) dX0_isOf_0 rfl rfl ?_
  refine y_istore_n (i := 2) (ls2 := [_, _, _, _]) dX0_isOf_1 rfl (by decide) rfl rfl ?_
  refine x_iconstN (n := 0) dX0_isOf_2 ?_
  refine y_istore_n (i := 3) (ls2 := [_, _, _, _]) dX0_isOf_3 rfl (by decide) rfl rfl ?_
  refine x_iload_n (i := 3) dX0_isOf_4 rfl rfl ?_
  refine x_bipush (v := nI 6) dX0_isOf_5 (by decide) ?_
  refine x_icgeN (tgt := 32) (by omega) (by omega) dX0_isOf_7 rfl (fun h7 => ?_) (fun h7 => ?_)
  · exact absurd h7 (by decide)
  · skip
    refine x_iload_n (i := 2) dX0_isOf_10 rfl rfl ?_
    refine x_iflt (tgt := 32) dX0_isOf_11 rfl (fun h11 => ?_) (fun h11 => ?_)
    · exact absurd h11 (by decide)
    · skip
      refine x_iload_n (i := 2) dX0_isOf_14 rfl rfl ?_
      refine x_iload_n (i := 1) dX0_isOf_15 rfl rfl ?_
      refine x_icneN (tgt := 21) (by omega) (by omega) dX0_isOf_16 rfl (fun h16 => ?_) (fun h16 => ?_)
      · skip
        refine x_iload_n (i := 2) dX0_isOf_21 rfl rfl ?_
        refine x_s1i dX0_isOf_22 okX0_above ml_X0_9 (Nat.le_of_ble_eq_true rfl) ⟨by decide, by decide⟩ (Nat.le_of_ble_eq_true rfl) (c_X0_above_5 ?_)
        refine y_istore_n (i := 2) (ls2 := [_, _, _, _]) dX0_isOf_25 rfl (by decide) rfl rfl ?_
        refine y_iincN (i := 3) (ls2 := [_, _, _, _]) dX0_isOf_26 rfl (by decide) rfl rfl ?_
        refine x_goto (tgt := 4) dX0_isOf_29 rfl ?_
        refine x_iload_n (i := 3) dX0_isOf_4 rfl rfl ?_
        refine x_bipush (v := nI 6) dX0_isOf_5 (by decide) ?_
        refine x_icgeN (tgt := 32) (by omega) (by omega) dX0_isOf_7 rfl (fun h7_1 => ?_) (fun h7_1 => ?_)
        · exact absurd h7_1 (by decide)
        · skip
          refine x_iload_n (i := 2) dX0_isOf_10 rfl rfl ?_
          refine x_iflt (tgt := 32) dX0_isOf_11 rfl (fun h11_1 => ?_) (fun h11_1 => ?_)
          · exact absurd h11_1 (by decide)
          · skip
            refine x_iload_n (i := 2) dX0_isOf_14 rfl rfl ?_
            refine x_iload_n (i := 1) dX0_isOf_15 rfl rfl ?_
            refine x_icneN (tgt := 21) (by omega) (by omega) dX0_isOf_16 rfl (fun h16_1 => ?_) (fun h16_1 => ?_)
            · skip
              refine x_iload_n (i := 2) dX0_isOf_21 rfl rfl ?_
              refine x_s1i dX0_isOf_22 okX0_above ml_X0_9 (Nat.le_of_ble_eq_true rfl) ⟨by decide, by decide⟩ (Nat.le_of_ble_eq_true rfl) (c_X0_above_3 ?_)
              refine y_istore_n (i := 2) (ls2 := [_, _, _, _]) dX0_isOf_25 rfl (by decide) rfl rfl ?_
              refine y_iincN (i := 3) (ls2 := [_, _, _, _]) dX0_isOf_26 rfl (by decide) rfl rfl ?_
              refine x_goto (tgt := 4) dX0_isOf_29 rfl ?_
              refine x_iload_n (i := 3) dX0_isOf_4 rfl rfl ?_
              refine x_bipush (v := nI 6) dX0_isOf_5 (by decide) ?_
              refine x_icgeN (tgt := 32) (by omega) (by omega) dX0_isOf_7 rfl (fun h7_2 => ?_) (fun h7_2 => ?_)
              · exact absurd h7_2 (by decide)
              · skip
                refine x_iload_n (i := 2) dX0_isOf_10 rfl rfl ?_
                refine x_iflt (tgt := 32) dX0_isOf_11 rfl (fun h11_2 => ?_) (fun h11_2 => ?_)
                · exact absurd h11_2 (by decide)
                · skip
                  refine x_iload_n (i := 2) dX0_isOf_14 rfl rfl ?_
                  refine x_iload_n (i := 1) dX0_isOf_15 rfl rfl ?_
                  refine x_icneN (tgt := 21) (by omega) (by omega) dX0_isOf_16 rfl (fun h16_2 => ?_) (fun h16_2 => ?_)
                  · skip
                    refine x_iload_n (i := 2) dX0_isOf_21 rfl rfl ?_
                    refine x_s1i dX0_isOf_22 okX0_above ml_X0_9 (Nat.le_of_ble_eq_true rfl) ⟨by decide, by decide⟩ (Nat.le_of_ble_eq_true rfl) (c_X0_above_0 ?_)
                    refine y_istore_n (i := 2) (ls2 := [_, _, _, _]) dX0_isOf_25 rfl (by decide) rfl rfl ?_
                    refine y_iincN (i := 3) (ls2 := [_, _, _, _]) dX0_isOf_26 rfl (by decide) rfl rfl ?_
                    refine x_goto (tgt := 4) dX0_isOf_29 rfl ?_
                    refine x_iload_n (i := 3) dX0_isOf_4 rfl rfl ?_
                    refine x_bipush (v := nI 6) dX0_isOf_5 (by decide) ?_
                    refine x_icgeN (tgt := 32) (by omega) (by omega) dX0_isOf_7 rfl (fun h7_3 => ?_) (fun h7_3 => ?_)
                    · exact absurd h7_3 (by decide)
                    · skip
                      refine x_iload_n (i := 2) dX0_isOf_10 rfl rfl ?_
                      refine x_iflt (tgt := 32) dX0_isOf_11 rfl (fun h11_3 => ?_) (fun h11_3 => ?_)
                      · skip
                        refine x_iconstN (n := 0) dX0_isOf_32 ?_
                        exact x_iretz dX0_isOf_33 rfl (by decide) (by rw [xb_f (show ¬ fOfN 5 o = true by simp [fOfN]; omega)] at hk; exact hk)
                      · exact absurd h11_3 (by decide)
                  · skip
                    refine x_iconstN (n := 1) dX0_isOf_19 ?_
                    exact x_iretz dX0_isOf_20 rfl (by decide) (by rw [xb_t (show fOfN 5 o = true by subst h16_2; decide)] at hk; exact hk)
            · skip
              refine x_iconstN (n := 1) dX0_isOf_19 ?_
              exact x_iretz dX0_isOf_20 rfl (by decide) (by rw [xb_t (show fOfN 5 o = true by subst h16_1; decide)] at hk; exact hk)
      · skip
        refine x_iconstN (n := 1) dX0_isOf_19 ?_
        exact x_iretz dX0_isOf_20 rfl (by decide) (by rw [xb_t (show fOfN 5 o = true by subst h16; decide)] at hk; exact hk)
theorem c_X0_isOf {σ : xH} {K : Int32 → xH → Prop} {k o : Nat} (hk6 : k < 6) (ho : o < 6) (hk : K (xb (fOfN k o = true)) σ) : Evi l (oC ad D cy) mX0_isOf [.int (nI k), .int (nI o)] σ K := by
  match k, hk6 with
  | 0, _ => exact c_X0_isOf_0 ho hk
  | 1, _ => exact c_X0_isOf_1 ho hk
  | 2, _ => exact c_X0_isOf_2 ho hk
  | 3, _ => exact c_X0_isOf_3 ho hk
  | 4, _ => exact c_X0_isOf_4 ho hk
  | 5, _ => exact c_X0_isOf_5 ho hk
set_option maxHeartbeats 4000000 in
set_option maxRecDepth 20000 in
theorem c_X4_set {σ : xH} {K : Int32 → xH → Prop} {S : St} (hS : cS σ S) (d c v : Int32) (hk : ∀ τ, cS τ (oSet S d c v).2 → K (oSet S d c v).1 τ) : Evi l (oC ad D cy) mX4_set [.ref 0, .int d, .int c, .int v] σ K := by
  have hw := hS.1
  have h8 := tw_8 hw
  refine x_enter (ls := [some (.ref 0), some (.int d), some (.int c), some (.int v), none]) rfl ?_
  by_cases hc : vN (tN (gT S)) d
  · unfold oSet at hk
    rw [if_pos hc] at hk
    obtain ⟨d, hd, rfl⟩ := vN_of hc (by omega)
    have hg := tw_g3 hw hd
    have h8d : d < 2 ^ 31 := by omega
    simp only [cn, nI_clamp h8d] at hk
    by_cases h1 : c = nI 1 ∧ vR (nI 10) (nI 80) v
    · rw [if_pos h1] at hk
      refine x_aload_n (i := 0) dX4_set_0 rfl rfl ?_
      refine x_getr (i := 0) dX4_set_1 rfl rfl rfl (by decide) fl_X4_10 inX4 ?_
      refine x_iload_n (i := 1) dX4_set_4 rfl rfl ?_
      refine x_v1i dX4_set_5 okX3_hasDriver ml_X4_111 (sT0 isT1) rfl (Nat.le_of_ble_eq_true rfl) ⟨by decide, by decide⟩ (Nat.le_of_ble_eq_true rfl) (c_X3_hasDriver isT1 hw _ ?_)
      refine x_ifneP (tgt := 18) dX4_set_8 rfl (fun h8 => ?_) (fun h8 => ?_)
      · skip
        refine x_iload_n (i := 2) dX4_set_18 rfl rfl ?_
        refine x_iconstN (n := 1) dX4_set_19 ?_
        refine x_icne (tgt := 58) dX4_set_20 rfl (fun h20 => ?_) (fun h20 => ?_)
        · exact absurd h1.1 h20
        · skip
          refine x_iload_n (i := 3) dX4_set_23 rfl rfl ?_
          refine x_bipush (v := nI 10) dX4_set_24 (by decide) ?_
          refine x_bipush (v := nI 80) dX4_set_26 (by decide) ?_
          refine x_s3i dX4_set_28 okX4_isWithin ml_X4_48 (Nat.le_of_ble_eq_true rfl) ⟨by decide, by decide⟩ (Nat.le_of_ble_eq_true rfl) (c_X4_isWithin _ _ _ ?_)
          refine x_ifeqP (tgt := 58) dX4_set_31 rfl (fun h31 => ?_) (fun h31 => ?_)
          · exact absurd h1.2 h31
          · skip
            refine x_aload_n (i := 0) dX4_set_34 rfl rfl ?_
            refine x_getr (i := 0) dX4_set_35 rfl rfl rfl (by decide) fl_X4_10 inX4 ?_
            refine x_getr (i := 6) dX4_set_38 (sT0 isT1) rfl rfl (by decide) fl_X4_117 inX3 ?_
            refine x_iload_n (i := 1) dX4_set_41 rfl rfl ?_
            refine x_ialdE dX4_set_42 (sT4 isT1) (by omega) (by decide) (tw_ws hw (by omega)) ?_
            refine y_istore (i := 4) (ls2 := [_, _, _, _, _]) dX4_set_43 (by decide) rfl rfl ?_
            refine x_aload_n (i := 0) dX4_set_45 rfl rfl ?_
            refine x_getr (i := 0) dX4_set_46 rfl rfl rfl (by decide) fl_X4_10 inX4 ?_
            refine x_getr (i := 6) dX4_set_49 (sT0 isT1) rfl rfl (by decide) fl_X4_117 inX3 ?_
            refine x_iload_n (i := 1) dX4_set_52 rfl rfl ?_
            refine x_iload_n (i := 3) dX4_set_53 rfl rfl ?_
            refine x_iastN dX4_set_54 (sT4 isT1) (by omega) (by decide) ?_
            refine x_iload (i := 4) dX4_set_55 rfl ?_
            exact x_ireti dX4_set_57 rfl (hk _ (cS_1 hS (fr_ui (by omega) (by omega)) (tw_setWs hw _ _)))
      · exact absurd hc h8
    · rw [if_neg h1] at hk
      by_cases h2 : c = nI 2 ∧ vN 3 v
      · rw [if_pos h2] at hk
        obtain ⟨r, hr, e⟩ := vN_of h2.2 (by decide)
        simp only [e, cn, nI_clamp (show r < 2 ^ 31 by omega)] at hk
        refine x_aload_n (i := 0) dX4_set_0 rfl rfl ?_
        refine x_getr (i := 0) dX4_set_1 rfl rfl rfl (by decide) fl_X4_10 inX4 ?_
        refine x_iload_n (i := 1) dX4_set_4 rfl rfl ?_
        refine x_v1i dX4_set_5 okX3_hasDriver ml_X4_111 (sT0 isT1) rfl (Nat.le_of_ble_eq_true rfl) ⟨by decide, by decide⟩ (Nat.le_of_ble_eq_true rfl) (c_X3_hasDriver isT1 hw _ ?_)
        refine x_ifneP (tgt := 18) dX4_set_8 rfl (fun h8 => ?_) (fun h8 => ?_)
        · skip
          refine x_iload_n (i := 2) dX4_set_18 rfl rfl ?_
          refine x_iconstN (n := 1) dX4_set_19 ?_
          refine x_icne (tgt := 58) dX4_set_20 rfl (fun h20 => ?_) (fun h20 => ?_)
          · skip
            refine x_iload_n (i := 2) dX4_set_58 rfl rfl ?_
            refine x_iconstN (n := 2) dX4_set_59 ?_
            refine x_icne (tgt := 94) dX4_set_60 rfl (fun h60 => ?_) (fun h60 => ?_)
            · exact absurd h2.1 h60
            · skip
              refine x_iload_n (i := 3) dX4_set_63 rfl rfl ?_
              refine x_s1i dX4_set_64 okX4_isStreet ml_X4_75 (Nat.le_of_ble_eq_true rfl) ⟨by decide, by decide⟩ (Nat.le_of_ble_eq_true rfl) (c_X4_isStreet _ ?_)
              refine x_ifeqP (tgt := 94) dX4_set_67 rfl (fun h67 => ?_) (fun h67 => ?_)
              · exact absurd h2.2 h67
              · skip
                refine x_aload_n (i := 0) dX4_set_70 rfl rfl ?_
                refine x_getr (i := 0) dX4_set_71 rfl rfl rfl (by decide) fl_X4_10 inX4 ?_
                refine x_getr (i := 7) dX4_set_74 (sT0 isT1) rfl rfl (by decide) fl_X4_120 inX3 ?_
                refine x_iload_n (i := 1) dX4_set_77 rfl rfl ?_
                refine x_ialdE dX4_set_78 (sT5 isT1) (by omega) (by decide) (tw_go hw (by omega)) ?_
                refine y_istore (i := 4) (ls2 := [_, _, _, _, _]) dX4_set_79 (by decide) rfl rfl ?_
                refine x_aload_n (i := 0) dX4_set_81 rfl rfl ?_
                refine x_getr (i := 0) dX4_set_82 rfl rfl rfl (by decide) fl_X4_10 inX4 ?_
                refine x_getr (i := 7) dX4_set_85 (sT0 isT1) rfl rfl (by decide) fl_X4_120 inX3 ?_
                refine x_iload_n (i := 1) dX4_set_88 rfl rfl ?_
                refine x_iload_n (i := 3) dX4_set_89 rfl rfl ?_
                refine x_iastN dX4_set_90 (sT5 isT1) (by omega) (by decide) ?_
                refine x_iload (i := 4) dX4_set_91 rfl ?_
                exact x_ireti dX4_set_93 rfl (hk _ (cS_1 hS (fr_ui (by omega) (by omega)) (e ▸ tw_setGo hw _ hr)))
          · skip
            refine x_iload_n (i := 3) dX4_set_23 rfl rfl ?_
            refine x_bipush (v := nI 10) dX4_set_24 (by decide) ?_
            refine x_bipush (v := nI 80) dX4_set_26 (by decide) ?_
            refine x_s3i dX4_set_28 okX4_isWithin ml_X4_48 (Nat.le_of_ble_eq_true rfl) ⟨by decide, by decide⟩ (Nat.le_of_ble_eq_true rfl) (c_X4_isWithin _ _ _ ?_)
            refine x_ifeqP (tgt := 58) dX4_set_31 rfl (fun h31 => ?_) (fun h31 => ?_)
            · skip
              refine x_iload_n (i := 2) dX4_set_58 rfl rfl ?_
              refine x_iconstN (n := 2) dX4_set_59 ?_
              refine x_icne (tgt := 94) dX4_set_60 rfl (fun h60 => ?_) (fun h60 => ?_)
              · exact absurd h2.1 h60
              · skip
                refine x_iload_n (i := 3) dX4_set_63 rfl rfl ?_
                refine x_s1i dX4_set_64 okX4_isStreet ml_X4_75 (Nat.le_of_ble_eq_true rfl) ⟨by decide, by decide⟩ (Nat.le_of_ble_eq_true rfl) (c_X4_isStreet _ ?_)
                refine x_ifeqP (tgt := 94) dX4_set_67 rfl (fun h67 => ?_) (fun h67 => ?_)
                · exact absurd h2.2 h67
                · skip
                  refine x_aload_n (i := 0) dX4_set_70 rfl rfl ?_
                  refine x_getr (i := 0) dX4_set_71 rfl rfl rfl (by decide) fl_X4_10 inX4 ?_
                  refine x_getr (i := 7) dX4_set_74 (sT0 isT1) rfl rfl (by decide) fl_X4_120 inX3 ?_
                  refine x_iload_n (i := 1) dX4_set_77 rfl rfl ?_
                  refine x_ialdE dX4_set_78 (sT5 isT1) (by omega) (by decide) (tw_go hw (by omega)) ?_
                  refine y_istore (i := 4) (ls2 := [_, _, _, _, _]) dX4_set_79 (by decide) rfl rfl ?_
                  refine x_aload_n (i := 0) dX4_set_81 rfl rfl ?_
                  refine x_getr (i := 0) dX4_set_82 rfl rfl rfl (by decide) fl_X4_10 inX4 ?_
                  refine x_getr (i := 7) dX4_set_85 (sT0 isT1) rfl rfl (by decide) fl_X4_120 inX3 ?_
                  refine x_iload_n (i := 1) dX4_set_88 rfl rfl ?_
                  refine x_iload_n (i := 3) dX4_set_89 rfl rfl ?_
                  refine x_iastN dX4_set_90 (sT5 isT1) (by omega) (by decide) ?_
                  refine x_iload (i := 4) dX4_set_91 rfl ?_
                  exact x_ireti dX4_set_93 rfl (hk _ (cS_1 hS (fr_ui (by omega) (by omega)) (e ▸ tw_setGo hw _ hr)))
            · exact absurd ⟨h20, h31⟩ h1
        · exact absurd hc h8
      · rw [if_neg h2] at hk
        refine x_aload_n (i := 0) dX4_set_0 rfl rfl ?_
        refine x_getr (i := 0) dX4_set_1 rfl rfl rfl (by decide) fl_X4_10 inX4 ?_
        refine x_iload_n (i := 1) dX4_set_4 rfl rfl ?_
        refine x_v1i dX4_set_5 okX3_hasDriver ml_X4_111 (sT0 isT1) rfl (Nat.le_of_ble_eq_true rfl) ⟨by decide, by decide⟩ (Nat.le_of_ble_eq_true rfl) (c_X3_hasDriver isT1 hw _ ?_)
        refine x_ifneP (tgt := 18) dX4_set_8 rfl (fun h8 => ?_) (fun h8 => ?_)
        · skip
          refine x_iload_n (i := 2) dX4_set_18 rfl rfl ?_
          refine x_iconstN (n := 1) dX4_set_19 ?_
          refine x_icne (tgt := 58) dX4_set_20 rfl (fun h20 => ?_) (fun h20 => ?_)
          · skip
            refine x_iload_n (i := 2) dX4_set_58 rfl rfl ?_
            refine x_iconstN (n := 2) dX4_set_59 ?_
            refine x_icne (tgt := 94) dX4_set_60 rfl (fun h60 => ?_) (fun h60 => ?_)
            · skip
              refine x_aload_n (i := 0) dX4_set_94 rfl rfl ?_
              refine x_ldc (v := -1000000001) dX4_set_95 kc_X4_52 ?_
              refine x_v1i dX4_set_97 okX4_tell ml_X4_53 rfl rfl (Nat.le_of_ble_eq_true rfl) ⟨by decide, by decide⟩ (Nat.le_of_ble_eq_true rfl) (c_X4_tell hS 0 (by decide) (by decide) (by decide) (fun τ hτ => ?_))
              exact x_ireti dX4_set_100 rfl (hk τ hτ)
            · skip
              refine x_iload_n (i := 3) dX4_set_63 rfl rfl ?_
              refine x_s1i dX4_set_64 okX4_isStreet ml_X4_75 (Nat.le_of_ble_eq_true rfl) ⟨by decide, by decide⟩ (Nat.le_of_ble_eq_true rfl) (c_X4_isStreet _ ?_)
              refine x_ifeqP (tgt := 94) dX4_set_67 rfl (fun h67 => ?_) (fun h67 => ?_)
              · skip
                refine x_aload_n (i := 0) dX4_set_94 rfl rfl ?_
                refine x_ldc (v := -1000000001) dX4_set_95 kc_X4_52 ?_
                refine x_v1i dX4_set_97 okX4_tell ml_X4_53 rfl rfl (Nat.le_of_ble_eq_true rfl) ⟨by decide, by decide⟩ (Nat.le_of_ble_eq_true rfl) (c_X4_tell hS 0 (by decide) (by decide) (by decide) (fun τ hτ => ?_))
                exact x_ireti dX4_set_100 rfl (hk τ hτ)
              · exact absurd ⟨h60, h67⟩ h2
          · skip
            refine x_iload_n (i := 3) dX4_set_23 rfl rfl ?_
            refine x_bipush (v := nI 10) dX4_set_24 (by decide) ?_
            refine x_bipush (v := nI 80) dX4_set_26 (by decide) ?_
            refine x_s3i dX4_set_28 okX4_isWithin ml_X4_48 (Nat.le_of_ble_eq_true rfl) ⟨by decide, by decide⟩ (Nat.le_of_ble_eq_true rfl) (c_X4_isWithin _ _ _ ?_)
            refine x_ifeqP (tgt := 58) dX4_set_31 rfl (fun h31 => ?_) (fun h31 => ?_)
            · skip
              refine x_iload_n (i := 2) dX4_set_58 rfl rfl ?_
              refine x_iconstN (n := 2) dX4_set_59 ?_
              refine x_icne (tgt := 94) dX4_set_60 rfl (fun h60 => ?_) (fun h60 => ?_)
              · skip
                refine x_aload_n (i := 0) dX4_set_94 rfl rfl ?_
                refine x_ldc (v := -1000000001) dX4_set_95 kc_X4_52 ?_
                refine x_v1i dX4_set_97 okX4_tell ml_X4_53 rfl rfl (Nat.le_of_ble_eq_true rfl) ⟨by decide, by decide⟩ (Nat.le_of_ble_eq_true rfl) (c_X4_tell hS 0 (by decide) (by decide) (by decide) (fun τ hτ => ?_))
                exact x_ireti dX4_set_100 rfl (hk τ hτ)
              · skip
                refine x_iload_n (i := 3) dX4_set_63 rfl rfl ?_
                refine x_s1i dX4_set_64 okX4_isStreet ml_X4_75 (Nat.le_of_ble_eq_true rfl) ⟨by decide, by decide⟩ (Nat.le_of_ble_eq_true rfl) (c_X4_isStreet _ ?_)
                refine x_ifeqP (tgt := 94) dX4_set_67 rfl (fun h67 => ?_) (fun h67 => ?_)
                · skip
                  refine x_aload_n (i := 0) dX4_set_94 rfl rfl ?_
                  refine x_ldc (v := -1000000001) dX4_set_95 kc_X4_52 ?_
                  refine x_v1i dX4_set_97 okX4_tell ml_X4_53 rfl rfl (Nat.le_of_ble_eq_true rfl) ⟨by decide, by decide⟩ (Nat.le_of_ble_eq_true rfl) (c_X4_tell hS 0 (by decide) (by decide) (by decide) (fun τ hτ => ?_))
                  exact x_ireti dX4_set_100 rfl (hk τ hτ)
                · exact absurd ⟨h60, h67⟩ h2
            · exact absurd ⟨h20, h31⟩ h1
        · exact absurd hc h8
  · unfold oSet at hk
    rw [if_neg hc] at hk
    refine x_aload_n (i := 0) dX4_set_0 rfl rfl ?_
    refine x_getr (i := 0) dX4_set_1 rfl rfl rfl (by decide) fl_X4_10 inX4 ?_
    refine x_iload_n (i := 1) dX4_set_4 rfl rfl ?_
    refine x_v1i dX4_set_5 okX3_hasDriver ml_X4_111 (sT0 isT1) rfl (Nat.le_of_ble_eq_true rfl) ⟨by decide, by decide⟩ (Nat.le_of_ble_eq_true rfl) (c_X3_hasDriver isT1 hw _ ?_)
    refine x_ifneP (tgt := 18) dX4_set_8 rfl (fun h8 => ?_) (fun h8 => ?_)
    · exact absurd h8 hc
    · skip
      refine x_aload_n (i := 0) dX4_set_11 rfl rfl ?_
      refine x_ldc (v := -1000000001) dX4_set_12 kc_X4_52 ?_
      refine x_v1i dX4_set_14 okX4_tell ml_X4_53 rfl rfl (Nat.le_of_ble_eq_true rfl) ⟨by decide, by decide⟩ (Nat.le_of_ble_eq_true rfl) (c_X4_tell hS 0 (by decide) (by decide) (by decide) (fun τ hτ => ?_))
      exact x_ireti dX4_set_17 rfl (hk τ hτ)
set_option maxHeartbeats 4000000 in
set_option maxRecDepth 20000 in
theorem c_X4_turn {σ : xH} {K : Int32 → xH → Prop} {S : St} (hS : cS σ S) (d k : Int32) (hk : ∀ τ, cS τ (oTurn S d k).2 → K (oTurn S d k).1 τ) : Evi l (oC ad D cy) mX4_turn [.ref 0, .int d, .int k] σ K := by
  have hw := hS.1
  have h8 := tw_8 hw
  refine x_enter (ls := [some (.ref 0), some (.int d), some (.int k), none]) rfl ?_
  by_cases hc : vN (tN (gT S)) d ∧ vN 6 k
  · unfold oTurn at hk
    rw [if_pos hc] at hk
    obtain ⟨d, hd, rfl⟩ := vN_of hc.1 (by omega)
    have hg := tw_g3 hw hd
    have h8d : d < 2 ^ 31 := by omega
    simp only [cn, nI_clamp h8d] at hk
    refine x_aload_n (i := 0) dX4_turn_0 rfl rfl ?_
    refine x_getr (i := 0) dX4_turn_1 rfl rfl rfl (by decide) fl_X4_10 inX4 ?_
    refine x_iload_n (i := 1) dX4_turn_4 rfl rfl ?_
    refine x_v1i dX4_turn_5 okX3_hasDriver ml_X4_111 (sT0 isT1) rfl (Nat.le_of_ble_eq_true rfl) ⟨by decide, by decide⟩ (Nat.le_of_ble_eq_true rfl) (c_X3_hasDriver isT1 hw _ ?_)
    refine x_ifeqP (tgt := 18) dX4_turn_8 rfl (fun h8 => ?_) (fun h8 => ?_)
    · exact absurd hc.1 h8
    · skip
      refine x_iload_n (i := 2) dX4_turn_11 rfl rfl ?_
      refine x_s1i dX4_turn_12 okX4_isKind ml_X4_101 (Nat.le_of_ble_eq_true rfl) ⟨by decide, by decide⟩ (Nat.le_of_ble_eq_true rfl) (c_X4_isKind _ ?_)
      refine x_ifneP (tgt := 25) dX4_turn_15 rfl (fun h15 => ?_) (fun h15 => ?_)
      · skip
        refine x_aload_n (i := 0) dX4_turn_25 rfl rfl ?_
        refine x_getr (i := 0) dX4_turn_26 rfl rfl rfl (by decide) fl_X4_10 inX4 ?_
        refine x_getr (i := 5) dX4_turn_29 (sT0 isT1) rfl rfl (by decide) fl_X4_114 inX3 ?_
        refine x_iload_n (i := 1) dX4_turn_32 rfl rfl ?_
        refine x_ialdE dX4_turn_33 (sT3 isT1) (by omega) (by decide) (tw_kd hw (by omega)) ?_
        refine y_istore_n (i := 3) (ls2 := [_, _, _, _]) dX4_turn_34 rfl (by decide) rfl rfl ?_
        refine x_aload_n (i := 0) dX4_turn_35 rfl rfl ?_
        refine x_getr (i := 0) dX4_turn_36 rfl rfl rfl (by decide) fl_X4_10 inX4 ?_
        refine x_getr (i := 5) dX4_turn_39 (sT0 isT1) rfl rfl (by decide) fl_X4_114 inX3 ?_
        refine x_iload_n (i := 1) dX4_turn_42 rfl rfl ?_
        refine x_iload_n (i := 2) dX4_turn_43 rfl rfl ?_
        refine x_iastN dX4_turn_44 (sT3 isT1) (by omega) (by decide) ?_
        refine x_iload_n (i := 3) dX4_turn_45 rfl rfl ?_
        exact x_ireti dX4_turn_46 rfl (hk _ (cS_1 hS (fr_ui (by omega) (by omega)) (tw_setKd hw _ _)))
      · exact absurd hc.2 h15
  · unfold oTurn at hk
    rw [if_neg hc] at hk
    refine x_aload_n (i := 0) dX4_turn_0 rfl rfl ?_
    refine x_getr (i := 0) dX4_turn_1 rfl rfl rfl (by decide) fl_X4_10 inX4 ?_
    refine x_iload_n (i := 1) dX4_turn_4 rfl rfl ?_
    refine x_v1i dX4_turn_5 okX3_hasDriver ml_X4_111 (sT0 isT1) rfl (Nat.le_of_ble_eq_true rfl) ⟨by decide, by decide⟩ (Nat.le_of_ble_eq_true rfl) (c_X3_hasDriver isT1 hw _ ?_)
    refine x_ifeqP (tgt := 18) dX4_turn_8 rfl (fun h8 => ?_) (fun h8 => ?_)
    · skip
      refine x_aload_n (i := 0) dX4_turn_18 rfl rfl ?_
      refine x_ldc (v := -1000000001) dX4_turn_19 kc_X4_52 ?_
      refine x_v1i dX4_turn_21 okX4_tell ml_X4_53 rfl rfl (Nat.le_of_ble_eq_true rfl) ⟨by decide, by decide⟩ (Nat.le_of_ble_eq_true rfl) (c_X4_tell hS 0 (by decide) (by decide) (by decide) (fun τ hτ => ?_))
      exact x_ireti dX4_turn_24 rfl (hk τ hτ)
    · skip
      refine x_iload_n (i := 2) dX4_turn_11 rfl rfl ?_
      refine x_s1i dX4_turn_12 okX4_isKind ml_X4_101 (Nat.le_of_ble_eq_true rfl) ⟨by decide, by decide⟩ (Nat.le_of_ble_eq_true rfl) (c_X4_isKind _ ?_)
      refine x_ifneP (tgt := 25) dX4_turn_15 rfl (fun h15 => ?_) (fun h15 => ?_)
      · exact absurd ⟨h8, h15⟩ hc
      · skip
        refine x_aload_n (i := 0) dX4_turn_18 rfl rfl ?_
        refine x_ldc (v := -1000000001) dX4_turn_19 kc_X4_52 ?_
        refine x_v1i dX4_turn_21 okX4_tell ml_X4_53 rfl rfl (Nat.le_of_ble_eq_true rfl) ⟨by decide, by decide⟩ (Nat.le_of_ble_eq_true rfl) (c_X4_tell hS 0 (by decide) (by decide) (by decide) (fun τ hτ => ?_))
        exact x_ireti dX4_turn_24 rfl (hk τ hτ)
/-- what the numbers of a town are -/
def tOk (T : Tw) : Prop := tN T ≤ 8 ∧ (∀ d, d < tN T → ∃ k, k < 6 ∧ tKd T d = nI k) ∧ (∀ d, d < tN T → ∃ w, 10 ≤ w ∧ w ≤ 80 ∧ tWs T d = nI w) ∧ (∀ i, i < 60 → ∃ x, x ≤ 4 ∧ tTh T i = nI x) ∧ (∀ i, i < 60 → ∃ a, a ≤ 999 ∧ tAg T i = nI a ∧ (¬ tTh T i = nI 4 → a = 0)) ∧ (∃ h, 1 ≤ h ∧ h ≤ 6 ∧ tIn T = nI h) ∧ True ∧ ∀ d, d < tN T → tGo T d < 3
set_option maxHeartbeats 4000000 in
set_option maxRecDepth 20000 in
theorem c_X4_as {σ : xH} {K : Int32 → xH → Prop} {S : St} (hS : cS σ S) (hO : tOk (gT S)) (d k : Int32) (hk : ∀ τ, cS τ (oAs S d k).2 → K (oAs S d k).1 τ) : Evi l (oC ad D cy) mX4_as [.ref 0, .int d, .int k] σ K := by
  have hw := hS.1
  have h8 := tw_8 hw
  refine x_enter (ls := [some (.ref 0), some (.int d), some (.int k)]) rfl ?_
  by_cases hc : vN (tN (gT S)) d ∧ vN 6 k
  · unfold oAs at hk
    rw [if_pos hc] at hk
    obtain ⟨d, hd, rfl⟩ := vN_of hc.1 (by omega)
    have hg := tw_g3 hw hd
    have h8d : d < 2 ^ 31 := by omega
    simp only [cn, nI_clamp h8d] at hk
    obtain ⟨o, ho, rfl⟩ := vN_of hc.2 (by decide)
    obtain ⟨x, hx, ex⟩ := hO.2.1 d hd
    have h8x : x < 2 ^ 31 := by omega
    have h8o : o < 2 ^ 31 := by omega
    simp only [ex, nI_clamp h8x, nI_clamp h8o] at hk
    by_cases h1 : fOfN x o = true
    · rw [if_pos h1] at hk
      refine x_aload_n (i := 0) dX4_as_0 rfl rfl ?_
      refine x_getr (i := 0) dX4_as_1 rfl rfl rfl (by decide) fl_X4_10 inX4 ?_
      refine x_iload_n (i := 1) dX4_as_4 rfl rfl ?_
      refine x_v1i dX4_as_5 okX3_hasDriver ml_X4_111 (sT0 isT1) rfl (Nat.le_of_ble_eq_true rfl) ⟨by decide, by decide⟩ (Nat.le_of_ble_eq_true rfl) (c_X3_hasDriver isT1 hw _ ?_)
      refine x_ifeqP (tgt := 18) dX4_as_8 rfl (fun h8 => ?_) (fun h8 => ?_)
      · exact absurd hc.1 h8
      · skip
        refine x_iload_n (i := 2) dX4_as_11 rfl rfl ?_
        refine x_s1i dX4_as_12 okX4_isKind ml_X4_101 (Nat.le_of_ble_eq_true rfl) ⟨by decide, by decide⟩ (Nat.le_of_ble_eq_true rfl) (c_X4_isKind _ ?_)
        refine x_ifneP (tgt := 25) dX4_as_15 rfl (fun h15 => ?_) (fun h15 => ?_)
        · skip
          refine x_aload_n (i := 0) dX4_as_25 rfl rfl ?_
          refine x_getr (i := 0) dX4_as_26 rfl rfl rfl (by decide) fl_X4_10 inX4 ?_
          refine x_getr (i := 5) dX4_as_29 (sT0 isT1) rfl rfl (by decide) fl_X4_114 inX3 ?_
          refine x_iload_n (i := 1) dX4_as_32 rfl rfl ?_
          refine x_ialdE dX4_as_33 (sT3 isT1) (by omega) (by decide) ((tw_kd hw hd).trans ex) ?_
          refine x_iload_n (i := 2) dX4_as_34 rfl rfl ?_
          refine x_s2i dX4_as_35 okX0_isOf ml_X4_135 (Nat.le_of_ble_eq_true rfl) ⟨by decide, by decide⟩ (Nat.le_of_ble_eq_true rfl) (c_X0_isOf hx ho ?_)
          refine x_ifneP (tgt := 48) dX4_as_38 rfl (fun h38 => ?_) (fun h38 => ?_)
          · skip
            refine x_aload_n (i := 0) dX4_as_48 rfl rfl ?_
            refine x_getr (i := 0) dX4_as_49 rfl rfl rfl (by decide) fl_X4_10 inX4 ?_
            refine x_getr (i := 6) dX4_as_52 (sT0 isT1) rfl rfl (by decide) fl_X4_117 inX3 ?_
            refine x_iload_n (i := 1) dX4_as_55 rfl rfl ?_
            refine x_ialdE dX4_as_56 (sT4 isT1) (by omega) (by decide) (tw_ws hw (by omega)) ?_
            exact x_ireti dX4_as_57 rfl (hk σ hS)
          · exact absurd h1 h38
        · exact absurd hc.2 h15
    · rw [if_neg h1] at hk
      refine x_aload_n (i := 0) dX4_as_0 rfl rfl ?_
      refine x_getr (i := 0) dX4_as_1 rfl rfl rfl (by decide) fl_X4_10 inX4 ?_
      refine x_iload_n (i := 1) dX4_as_4 rfl rfl ?_
      refine x_v1i dX4_as_5 okX3_hasDriver ml_X4_111 (sT0 isT1) rfl (Nat.le_of_ble_eq_true rfl) ⟨by decide, by decide⟩ (Nat.le_of_ble_eq_true rfl) (c_X3_hasDriver isT1 hw _ ?_)
      refine x_ifeqP (tgt := 18) dX4_as_8 rfl (fun h8 => ?_) (fun h8 => ?_)
      · exact absurd hc.1 h8
      · skip
        refine x_iload_n (i := 2) dX4_as_11 rfl rfl ?_
        refine x_s1i dX4_as_12 okX4_isKind ml_X4_101 (Nat.le_of_ble_eq_true rfl) ⟨by decide, by decide⟩ (Nat.le_of_ble_eq_true rfl) (c_X4_isKind _ ?_)
        refine x_ifneP (tgt := 25) dX4_as_15 rfl (fun h15 => ?_) (fun h15 => ?_)
        · skip
          refine x_aload_n (i := 0) dX4_as_25 rfl rfl ?_
          refine x_getr (i := 0) dX4_as_26 rfl rfl rfl (by decide) fl_X4_10 inX4 ?_
          refine x_getr (i := 5) dX4_as_29 (sT0 isT1) rfl rfl (by decide) fl_X4_114 inX3 ?_
          refine x_iload_n (i := 1) dX4_as_32 rfl rfl ?_
          refine x_ialdE dX4_as_33 (sT3 isT1) (by omega) (by decide) ((tw_kd hw hd).trans ex) ?_
          refine x_iload_n (i := 2) dX4_as_34 rfl rfl ?_
          refine x_s2i dX4_as_35 okX0_isOf ml_X4_135 (Nat.le_of_ble_eq_true rfl) ⟨by decide, by decide⟩ (Nat.le_of_ble_eq_true rfl) (c_X0_isOf hx ho ?_)
          refine x_ifneP (tgt := 48) dX4_as_38 rfl (fun h38 => ?_) (fun h38 => ?_)
          · exact absurd h38 h1
          · skip
            refine x_aload_n (i := 0) dX4_as_41 rfl rfl ?_
            refine x_ldc (v := -1000000003) dX4_as_42 kc_X4_138 ?_
            refine x_v1i dX4_as_44 okX4_tell ml_X4_53 rfl rfl (Nat.le_of_ble_eq_true rfl) ⟨by decide, by decide⟩ (Nat.le_of_ble_eq_true rfl) (c_X4_tell hS 2 (by decide) (by decide) (by decide) (fun τ hτ => ?_))
            exact x_ireti dX4_as_47 rfl (hk τ hτ)
        · exact absurd hc.2 h15
  · unfold oAs at hk
    rw [if_neg hc] at hk
    refine x_aload_n (i := 0) dX4_as_0 rfl rfl ?_
    refine x_getr (i := 0) dX4_as_1 rfl rfl rfl (by decide) fl_X4_10 inX4 ?_
    refine x_iload_n (i := 1) dX4_as_4 rfl rfl ?_
    refine x_v1i dX4_as_5 okX3_hasDriver ml_X4_111 (sT0 isT1) rfl (Nat.le_of_ble_eq_true rfl) ⟨by decide, by decide⟩ (Nat.le_of_ble_eq_true rfl) (c_X3_hasDriver isT1 hw _ ?_)
    refine x_ifeqP (tgt := 18) dX4_as_8 rfl (fun h8 => ?_) (fun h8 => ?_)
    · skip
      refine x_aload_n (i := 0) dX4_as_18 rfl rfl ?_
      refine x_ldc (v := -1000000001) dX4_as_19 kc_X4_52 ?_
      refine x_v1i dX4_as_21 okX4_tell ml_X4_53 rfl rfl (Nat.le_of_ble_eq_true rfl) ⟨by decide, by decide⟩ (Nat.le_of_ble_eq_true rfl) (c_X4_tell hS 0 (by decide) (by decide) (by decide) (fun τ hτ => ?_))
      exact x_ireti dX4_as_24 rfl (hk τ hτ)
    · skip
      refine x_iload_n (i := 2) dX4_as_11 rfl rfl ?_
      refine x_s1i dX4_as_12 okX4_isKind ml_X4_101 (Nat.le_of_ble_eq_true rfl) ⟨by decide, by decide⟩ (Nat.le_of_ble_eq_true rfl) (c_X4_isKind _ ?_)
      refine x_ifneP (tgt := 25) dX4_as_15 rfl (fun h15 => ?_) (fun h15 => ?_)
      · exact absurd ⟨h8, h15⟩ hc
      · skip
        refine x_aload_n (i := 0) dX4_as_18 rfl rfl ?_
        refine x_ldc (v := -1000000001) dX4_as_19 kc_X4_52 ?_
        refine x_v1i dX4_as_21 okX4_tell ml_X4_53 rfl rfl (Nat.le_of_ble_eq_true rfl) ⟨by decide, by decide⟩ (Nat.le_of_ble_eq_true rfl) (c_X4_tell hS 0 (by decide) (by decide) (by decide) (fun τ hτ => ?_))
        exact x_ireti dX4_as_24 rfl (hk τ hτ)
set_option maxHeartbeats 4000000 in
set_option maxRecDepth 20000 in
theorem c_X4_slows {σ : xH} {K : Int32 → xH → Prop} {S : St} (hS : cS σ S) (d t g : Int32) (hk : ∀ τ, cS τ (oSlows S d t g).2 → K (oSlows S d t g).1 τ) : Evi l (oC ad D cy) mX4_slows [.ref 0, .int d, .int t, .int g] σ K := by
  have hw := hS.1
  have h8 := tw_8 hw
  refine x_enter (ls := [some (.ref 0), some (.int d), some (.int t), some (.int g)]) rfl ?_
  by_cases hc : vN (tN (gT S)) d ∧ vR (nI 1) (nI 4) t ∧ vR (nI 0) (nI 999) g
  · unfold oSlows at hk
    rw [if_pos hc] at hk
    obtain ⟨d, hd, rfl⟩ := vN_of hc.1 (by omega)
    have hg := tw_g3 hw hd
    have h8d : d < 2 ^ 31 := by omega
    simp only [cn, nI_clamp h8d] at hk
    refine x_aload_n (i := 0) dX4_slows_0 rfl rfl ?_
    refine x_getr (i := 0) dX4_slows_1 rfl rfl rfl (by decide) fl_X4_10 inX4 ?_
    refine x_iload_n (i := 1) dX4_slows_4 rfl rfl ?_
    refine x_v1i dX4_slows_5 okX3_hasDriver ml_X4_111 (sT0 isT1) rfl (Nat.le_of_ble_eq_true rfl) ⟨by decide, by decide⟩ (Nat.le_of_ble_eq_true rfl) (c_X3_hasDriver isT1 hw _ ?_)
    refine x_ifeqP (tgt := 31) dX4_slows_8 rfl (fun h8 => ?_) (fun h8 => ?_)
    · exact absurd hc.1 h8
    · skip
      refine x_iload_n (i := 2) dX4_slows_11 rfl rfl ?_
      refine x_iconstN (n := 1) dX4_slows_12 ?_
      refine x_iconstN (n := 4) dX4_slows_13 ?_
      refine x_s3i dX4_slows_14 okX4_isWithin ml_X4_48 (Nat.le_of_ble_eq_true rfl) ⟨by decide, by decide⟩ (Nat.le_of_ble_eq_true rfl) (c_X4_isWithin _ _ _ ?_)
      refine x_ifeqP (tgt := 31) dX4_slows_17 rfl (fun h17 => ?_) (fun h17 => ?_)
      · exact absurd hc.2.1 h17
      · skip
        refine x_iload_n (i := 3) dX4_slows_20 rfl rfl ?_
        refine x_iconstN (n := 0) dX4_slows_21 ?_
        refine x_sipush (v := nI 999) dX4_slows_22 (by decide) ?_
        refine x_s3i dX4_slows_25 okX4_isWithin ml_X4_48 (Nat.le_of_ble_eq_true rfl) ⟨by decide, by decide⟩ (Nat.le_of_ble_eq_true rfl) (c_X4_isWithin _ _ _ ?_)
        refine x_ifneP (tgt := 38) dX4_slows_28 rfl (fun h28 => ?_) (fun h28 => ?_)
        · skip
          refine x_aload_n (i := 0) dX4_slows_38 rfl rfl ?_
          refine x_getr (i := 0) dX4_slows_39 rfl rfl rfl (by decide) fl_X4_10 inX4 ?_
          refine x_getr (i := 5) dX4_slows_42 (sT0 isT1) rfl rfl (by decide) fl_X4_114 inX3 ?_
          refine x_iload_n (i := 1) dX4_slows_45 rfl rfl ?_
          refine x_ialdE dX4_slows_46 (sT3 isT1) (by omega) (by decide) (tw_kd hw (by omega)) ?_
          refine x_aload_n (i := 0) dX4_slows_47 rfl rfl ?_
          refine x_getr (i := 0) dX4_slows_48 rfl rfl rfl (by decide) fl_X4_10 inX4 ?_
          refine x_getr (i := 6) dX4_slows_51 (sT0 isT1) rfl rfl (by decide) fl_X4_117 inX3 ?_
          refine x_iload_n (i := 1) dX4_slows_54 rfl rfl ?_
          refine x_ialdE dX4_slows_55 (sT4 isT1) (by omega) (by decide) (tw_ws hw (by omega)) ?_
          refine x_iload_n (i := 2) dX4_slows_56 rfl rfl ?_
          refine x_aload_n (i := 0) dX4_slows_57 rfl rfl ?_
          refine x_getr (i := 0) dX4_slows_58 rfl rfl rfl (by decide) fl_X4_10 inX4 ?_
          refine x_getiE (i := 1) dX4_slows_61 (sT0 isT1) rfl rfl (by decide) fl_X4_71 inX3 (tw_in hw) ?_
          refine x_iload_n (i := 3) dX4_slows_64 rfl rfl ?_
          refine x_s5i dX4_slows_65 okX0_slowsTo ml_X4_139 (Nat.le_of_ble_eq_true rfl) ⟨by decide, by decide⟩ (Nat.le_of_ble_eq_true rfl) (c_X0_slowsTo _ _ _ _ _ ?_)
          exact x_ireti dX4_slows_68 rfl (hk σ hS)
        · exact absurd hc.2.2 h28
  · unfold oSlows at hk
    rw [if_neg hc] at hk
    refine x_aload_n (i := 0) dX4_slows_0 rfl rfl ?_
    refine x_getr (i := 0) dX4_slows_1 rfl rfl rfl (by decide) fl_X4_10 inX4 ?_
    refine x_iload_n (i := 1) dX4_slows_4 rfl rfl ?_
    refine x_v1i dX4_slows_5 okX3_hasDriver ml_X4_111 (sT0 isT1) rfl (Nat.le_of_ble_eq_true rfl) ⟨by decide, by decide⟩ (Nat.le_of_ble_eq_true rfl) (c_X3_hasDriver isT1 hw _ ?_)
    refine x_ifeqP (tgt := 31) dX4_slows_8 rfl (fun h8 => ?_) (fun h8 => ?_)
    · skip
      refine x_aload_n (i := 0) dX4_slows_31 rfl rfl ?_
      refine x_ldc (v := -1000000001) dX4_slows_32 kc_X4_52 ?_
      refine x_v1i dX4_slows_34 okX4_tell ml_X4_53 rfl rfl (Nat.le_of_ble_eq_true rfl) ⟨by decide, by decide⟩ (Nat.le_of_ble_eq_true rfl) (c_X4_tell hS 0 (by decide) (by decide) (by decide) (fun τ hτ => ?_))
      exact x_ireti dX4_slows_37 rfl (hk τ hτ)
    · skip
      refine x_iload_n (i := 2) dX4_slows_11 rfl rfl ?_
      refine x_iconstN (n := 1) dX4_slows_12 ?_
      refine x_iconstN (n := 4) dX4_slows_13 ?_
      refine x_s3i dX4_slows_14 okX4_isWithin ml_X4_48 (Nat.le_of_ble_eq_true rfl) ⟨by decide, by decide⟩ (Nat.le_of_ble_eq_true rfl) (c_X4_isWithin _ _ _ ?_)
      refine x_ifeqP (tgt := 31) dX4_slows_17 rfl (fun h17 => ?_) (fun h17 => ?_)
      · skip
        refine x_aload_n (i := 0) dX4_slows_31 rfl rfl ?_
        refine x_ldc (v := -1000000001) dX4_slows_32 kc_X4_52 ?_
        refine x_v1i dX4_slows_34 okX4_tell ml_X4_53 rfl rfl (Nat.le_of_ble_eq_true rfl) ⟨by decide, by decide⟩ (Nat.le_of_ble_eq_true rfl) (c_X4_tell hS 0 (by decide) (by decide) (by decide) (fun τ hτ => ?_))
        exact x_ireti dX4_slows_37 rfl (hk τ hτ)
      · skip
        refine x_iload_n (i := 3) dX4_slows_20 rfl rfl ?_
        refine x_iconstN (n := 0) dX4_slows_21 ?_
        refine x_sipush (v := nI 999) dX4_slows_22 (by decide) ?_
        refine x_s3i dX4_slows_25 okX4_isWithin ml_X4_48 (Nat.le_of_ble_eq_true rfl) ⟨by decide, by decide⟩ (Nat.le_of_ble_eq_true rfl) (c_X4_isWithin _ _ _ ?_)
        refine x_ifneP (tgt := 38) dX4_slows_28 rfl (fun h28 => ?_) (fun h28 => ?_)
        · exact absurd ⟨h8, h17, h28⟩ hc
        · skip
          refine x_aload_n (i := 0) dX4_slows_31 rfl rfl ?_
          refine x_ldc (v := -1000000001) dX4_slows_32 kc_X4_52 ?_
          refine x_v1i dX4_slows_34 okX4_tell ml_X4_53 rfl rfl (Nat.le_of_ble_eq_true rfl) ⟨by decide, by decide⟩ (Nat.le_of_ble_eq_true rfl) (c_X4_tell hS 0 (by decide) (by decide) (by decide) (fun τ hτ => ?_))
          exact x_ireti dX4_slows_37 rfl (hk τ hτ)
set_option maxHeartbeats 4000000 in
set_option maxRecDepth 20000 in
theorem c_X4_quick {σ : xH} {K : Int32 → xH → Prop} {S : St} (hS : cS σ S) (d a b : Int32) (hk : ∀ τ, cS τ (oQuick S d a b).2 → K (oQuick S d a b).1 τ) : Evi l (oC ad D cy) mX4_quick [.ref 0, .int d, .int a, .int b] σ K := by
  have hw := hS.1
  have h8 := tw_8 hw
  refine x_enter (ls := [some (.ref 0), some (.int d), some (.int a), some (.int b)]) rfl ?_
  by_cases hc : vN (tN (gT S)) d ∧ vN 3 a ∧ vN 20 b
  · unfold oQuick at hk
    rw [if_pos hc] at hk
    obtain ⟨d, hd, rfl⟩ := vN_of hc.1 (by omega)
    have hg := tw_g3 hw hd
    have h8d : d < 2 ^ 31 := by omega
    simp only [cn, nI_clamp h8d] at hk
    obtain ⟨r, hr, rfl⟩ := vN_of hc.2.1 (by decide)
    simp only [nI_clamp (show r < 2 ^ 31 by omega)] at hk
    obtain ⟨i, hi, rfl⟩ := vN_of hc.2.2 (by decide)
    simp only [nI_clamp (show i < 2 ^ 31 by omega)] at hk
    refine x_aload_n (i := 0) dX4_quick_0 rfl rfl ?_
    refine x_getr (i := 0) dX4_quick_1 rfl rfl rfl (by decide) fl_X4_10 inX4 ?_
    refine x_iload_n (i := 1) dX4_quick_4 rfl rfl ?_
    refine x_v1i dX4_quick_5 okX3_hasDriver ml_X4_111 (sT0 isT1) rfl (Nat.le_of_ble_eq_true rfl) ⟨by decide, by decide⟩ (Nat.le_of_ble_eq_true rfl) (c_X3_hasDriver isT1 hw _ ?_)
    refine x_ifeqP (tgt := 19) dX4_quick_8 rfl (fun h8 => ?_) (fun h8 => ?_)
    · exact absurd hc.1 h8
    · skip
      refine x_iload_n (i := 2) dX4_quick_11 rfl rfl ?_
      refine x_iload_n (i := 3) dX4_quick_12 rfl rfl ?_
      refine x_s2i dX4_quick_13 okX4_isStretch ml_X4_44 (Nat.le_of_ble_eq_true rfl) ⟨by decide, by decide⟩ (Nat.le_of_ble_eq_true rfl) (c_X4_isStretch _ _ ?_)
      refine x_ifneP (tgt := 26) dX4_quick_16 rfl (fun h16 => ?_) (fun h16 => ?_)
      · skip
        refine x_aload_n (i := 0) dX4_quick_26 rfl rfl ?_
        refine x_getr (i := 0) dX4_quick_27 rfl rfl rfl (by decide) fl_X4_10 inX4 ?_
        refine x_aload_n (i := 0) dX4_quick_30 rfl rfl ?_
        refine x_getr (i := 0) dX4_quick_31 rfl rfl rfl (by decide) fl_X4_10 inX4 ?_
        refine x_getr (i := 5) dX4_quick_34 (sT0 isT1) rfl rfl (by decide) fl_X4_114 inX3 ?_
        refine x_iload_n (i := 1) dX4_quick_37 rfl rfl ?_
        refine x_ialdE dX4_quick_38 (sT3 isT1) (by omega) (by decide) (tw_kd hw (by omega)) ?_
        refine x_aload_n (i := 0) dX4_quick_39 rfl rfl ?_
        refine x_getr (i := 0) dX4_quick_40 rfl rfl rfl (by decide) fl_X4_10 inX4 ?_
        refine x_getr (i := 6) dX4_quick_43 (sT0 isT1) rfl rfl (by decide) fl_X4_117 inX3 ?_
        refine x_iload_n (i := 1) dX4_quick_46 rfl rfl ?_
        refine x_ialdE dX4_quick_47 (sT4 isT1) (by omega) (by decide) (tw_ws hw (by omega)) ?_
        refine x_iload_n (i := 2) dX4_quick_48 rfl rfl ?_
        refine x_iload_n (i := 3) dX4_quick_49 rfl rfl ?_
        refine x_v4i dX4_quick_50 okX3_paceOn ml_X4_143 (sT0 isT1) rfl (Nat.le_of_ble_eq_true rfl) ⟨by decide, by decide⟩ (Nat.le_of_ble_eq_true rfl) (c_X3_paceOn isT1 hw _ _ hr hi ?_)
        exact x_ireti dX4_quick_53 rfl (hk σ hS)
      · exact absurd hc.2 h16
  · unfold oQuick at hk
    rw [if_neg hc] at hk
    refine x_aload_n (i := 0) dX4_quick_0 rfl rfl ?_
    refine x_getr (i := 0) dX4_quick_1 rfl rfl rfl (by decide) fl_X4_10 inX4 ?_
    refine x_iload_n (i := 1) dX4_quick_4 rfl rfl ?_
    refine x_v1i dX4_quick_5 okX3_hasDriver ml_X4_111 (sT0 isT1) rfl (Nat.le_of_ble_eq_true rfl) ⟨by decide, by decide⟩ (Nat.le_of_ble_eq_true rfl) (c_X3_hasDriver isT1 hw _ ?_)
    refine x_ifeqP (tgt := 19) dX4_quick_8 rfl (fun h8 => ?_) (fun h8 => ?_)
    · skip
      refine x_aload_n (i := 0) dX4_quick_19 rfl rfl ?_
      refine x_ldc (v := -1000000001) dX4_quick_20 kc_X4_52 ?_
      refine x_v1i dX4_quick_22 okX4_tell ml_X4_53 rfl rfl (Nat.le_of_ble_eq_true rfl) ⟨by decide, by decide⟩ (Nat.le_of_ble_eq_true rfl) (c_X4_tell hS 0 (by decide) (by decide) (by decide) (fun τ hτ => ?_))
      exact x_ireti dX4_quick_25 rfl (hk τ hτ)
    · skip
      refine x_iload_n (i := 2) dX4_quick_11 rfl rfl ?_
      refine x_iload_n (i := 3) dX4_quick_12 rfl rfl ?_
      refine x_s2i dX4_quick_13 okX4_isStretch ml_X4_44 (Nat.le_of_ble_eq_true rfl) ⟨by decide, by decide⟩ (Nat.le_of_ble_eq_true rfl) (c_X4_isStretch _ _ ?_)
      refine x_ifneP (tgt := 26) dX4_quick_16 rfl (fun h16 => ?_) (fun h16 => ?_)
      · exact absurd ⟨h8, h16⟩ hc
      · skip
        refine x_aload_n (i := 0) dX4_quick_19 rfl rfl ?_
        refine x_ldc (v := -1000000001) dX4_quick_20 kc_X4_52 ?_
        refine x_v1i dX4_quick_22 okX4_tell ml_X4_53 rfl rfl (Nat.le_of_ble_eq_true rfl) ⟨by decide, by decide⟩ (Nat.le_of_ble_eq_true rfl) (c_X4_tell hS 0 (by decide) (by decide) (by decide) (fun τ hτ => ?_))
        exact x_ireti dX4_quick_25 rfl (hk τ hτ)
set_option maxHeartbeats 4000000 in
set_option maxRecDepth 20000 in
theorem c_X4_takes {σ : xH} {K : Int32 → xH → Prop} {S : St} (hS : cS σ S) (d a : Int32) (hk : ∀ τ, cS τ (oTakes S d a).2 → K (oTakes S d a).1 τ) : Evi l (oC ad D cy) mX4_takes [.ref 0, .int d, .int a] σ K := by
  have hw := hS.1
  have h8 := tw_8 hw
  refine x_enter (ls := [some (.ref 0), some (.int d), some (.int a)]) rfl ?_
  by_cases hc : vN (tN (gT S)) d ∧ vN 3 a
  · unfold oTakes at hk
    rw [if_pos hc] at hk
    obtain ⟨d, hd, rfl⟩ := vN_of hc.1 (by omega)
    have hg := tw_g3 hw hd
    have h8d : d < 2 ^ 31 := by omega
    simp only [cn, nI_clamp h8d] at hk
    obtain ⟨r, hr, rfl⟩ := vN_of hc.2 (by decide)
    simp only [nI_clamp (show r < 2 ^ 31 by omega)] at hk
    refine x_aload_n (i := 0) dX4_takes_0 rfl rfl ?_
    refine x_getr (i := 0) dX4_takes_1 rfl rfl rfl (by decide) fl_X4_10 inX4 ?_
    refine x_iload_n (i := 1) dX4_takes_4 rfl rfl ?_
    refine x_v1i dX4_takes_5 okX3_hasDriver ml_X4_111 (sT0 isT1) rfl (Nat.le_of_ble_eq_true rfl) ⟨by decide, by decide⟩ (Nat.le_of_ble_eq_true rfl) (c_X3_hasDriver isT1 hw _ ?_)
    refine x_ifeqP (tgt := 18) dX4_takes_8 rfl (fun h8 => ?_) (fun h8 => ?_)
    · exact absurd hc.1 h8
    · skip
      refine x_iload_n (i := 2) dX4_takes_11 rfl rfl ?_
      refine x_s1i dX4_takes_12 okX4_isStreet ml_X4_75 (Nat.le_of_ble_eq_true rfl) ⟨by decide, by decide⟩ (Nat.le_of_ble_eq_true rfl) (c_X4_isStreet _ ?_)
      refine x_ifneP (tgt := 25) dX4_takes_15 rfl (fun h15 => ?_) (fun h15 => ?_)
      · skip
        refine x_aload_n (i := 0) dX4_takes_25 rfl rfl ?_
        refine x_getr (i := 0) dX4_takes_26 rfl rfl rfl (by decide) fl_X4_10 inX4 ?_
        refine x_aload_n (i := 0) dX4_takes_29 rfl rfl ?_
        refine x_getr (i := 0) dX4_takes_30 rfl rfl rfl (by decide) fl_X4_10 inX4 ?_
        refine x_getr (i := 5) dX4_takes_33 (sT0 isT1) rfl rfl (by decide) fl_X4_114 inX3 ?_
        refine x_iload_n (i := 1) dX4_takes_36 rfl rfl ?_
        refine x_ialdE dX4_takes_37 (sT3 isT1) (by omega) (by decide) (tw_kd hw (by omega)) ?_
        refine x_aload_n (i := 0) dX4_takes_38 rfl rfl ?_
        refine x_getr (i := 0) dX4_takes_39 rfl rfl rfl (by decide) fl_X4_10 inX4 ?_
        refine x_getr (i := 6) dX4_takes_42 (sT0 isT1) rfl rfl (by decide) fl_X4_117 inX3 ?_
        refine x_iload_n (i := 1) dX4_takes_45 rfl rfl ?_
        refine x_ialdE dX4_takes_46 (sT4 isT1) (by omega) (by decide) (tw_ws hw (by omega)) ?_
        refine x_iload_n (i := 2) dX4_takes_47 rfl rfl ?_
        refine x_v3i dX4_takes_48 okX3_timeFor ml_X4_128 (sT0 isT1) rfl (Nat.le_of_ble_eq_true rfl) ⟨by decide, by decide⟩ (Nat.le_of_ble_eq_true rfl) (c_X3_timeFor isT1 hw _ _ hr ?_)
        exact x_ireti dX4_takes_51 rfl (hk σ hS)
      · exact absurd hc.2 h15
  · unfold oTakes at hk
    rw [if_neg hc] at hk
    refine x_aload_n (i := 0) dX4_takes_0 rfl rfl ?_
    refine x_getr (i := 0) dX4_takes_1 rfl rfl rfl (by decide) fl_X4_10 inX4 ?_
    refine x_iload_n (i := 1) dX4_takes_4 rfl rfl ?_
    refine x_v1i dX4_takes_5 okX3_hasDriver ml_X4_111 (sT0 isT1) rfl (Nat.le_of_ble_eq_true rfl) ⟨by decide, by decide⟩ (Nat.le_of_ble_eq_true rfl) (c_X3_hasDriver isT1 hw _ ?_)
    refine x_ifeqP (tgt := 18) dX4_takes_8 rfl (fun h8 => ?_) (fun h8 => ?_)
    · skip
      refine x_aload_n (i := 0) dX4_takes_18 rfl rfl ?_
      refine x_ldc (v := -1000000001) dX4_takes_19 kc_X4_52 ?_
      refine x_v1i dX4_takes_21 okX4_tell ml_X4_53 rfl rfl (Nat.le_of_ble_eq_true rfl) ⟨by decide, by decide⟩ (Nat.le_of_ble_eq_true rfl) (c_X4_tell hS 0 (by decide) (by decide) (by decide) (fun τ hτ => ?_))
      exact x_ireti dX4_takes_24 rfl (hk τ hτ)
    · skip
      refine x_iload_n (i := 2) dX4_takes_11 rfl rfl ?_
      refine x_s1i dX4_takes_12 okX4_isStreet ml_X4_75 (Nat.le_of_ble_eq_true rfl) ⟨by decide, by decide⟩ (Nat.le_of_ble_eq_true rfl) (c_X4_isStreet _ ?_)
      refine x_ifneP (tgt := 25) dX4_takes_15 rfl (fun h15 => ?_) (fun h15 => ?_)
      · exact absurd ⟨h8, h15⟩ hc
      · skip
        refine x_aload_n (i := 0) dX4_takes_18 rfl rfl ?_
        refine x_ldc (v := -1000000001) dX4_takes_19 kc_X4_52 ?_
        refine x_v1i dX4_takes_21 okX4_tell ml_X4_53 rfl rfl (Nat.le_of_ble_eq_true rfl) ⟨by decide, by decide⟩ (Nat.le_of_ble_eq_true rfl) (c_X4_tell hS 0 (by decide) (by decide) (by decide) (fun τ hτ => ?_))
        exact x_ireti dX4_takes_24 rfl (hk τ hτ)
set_option maxHeartbeats 4000000 in
set_option maxRecDepth 20000 in
theorem c_X4_shaken {σ : xH} {K : Int32 → xH → Prop} {S : St} (hS : cS σ S) (d a : Int32) (hk : ∀ τ, cS τ (oShaken S d a).2 → K (oShaken S d a).1 τ) : Evi l (oC ad D cy) mX4_shaken [.ref 0, .int d, .int a] σ K := by
  have hw := hS.1
  have h8 := tw_8 hw
  refine x_enter (ls := [some (.ref 0), some (.int d), some (.int a)]) rfl ?_
  by_cases hc : vN (tN (gT S)) d ∧ vN 3 a
  · unfold oShaken at hk
    rw [if_pos hc] at hk
    obtain ⟨d, hd, rfl⟩ := vN_of hc.1 (by omega)
    have hg := tw_g3 hw hd
    have h8d : d < 2 ^ 31 := by omega
    simp only [cn, nI_clamp h8d] at hk
    obtain ⟨r, hr, rfl⟩ := vN_of hc.2 (by decide)
    simp only [nI_clamp (show r < 2 ^ 31 by omega)] at hk
    refine x_aload_n (i := 0) dX4_shaken_0 rfl rfl ?_
    refine x_getr (i := 0) dX4_shaken_1 rfl rfl rfl (by decide) fl_X4_10 inX4 ?_
    refine x_iload_n (i := 1) dX4_shaken_4 rfl rfl ?_
    refine x_v1i dX4_shaken_5 okX3_hasDriver ml_X4_111 (sT0 isT1) rfl (Nat.le_of_ble_eq_true rfl) ⟨by decide, by decide⟩ (Nat.le_of_ble_eq_true rfl) (c_X3_hasDriver isT1 hw _ ?_)
    refine x_ifeqP (tgt := 18) dX4_shaken_8 rfl (fun h8 => ?_) (fun h8 => ?_)
    · exact absurd hc.1 h8
    · skip
      refine x_iload_n (i := 2) dX4_shaken_11 rfl rfl ?_
      refine x_s1i dX4_shaken_12 okX4_isStreet ml_X4_75 (Nat.le_of_ble_eq_true rfl) ⟨by decide, by decide⟩ (Nat.le_of_ble_eq_true rfl) (c_X4_isStreet _ ?_)
      refine x_ifneP (tgt := 25) dX4_shaken_15 rfl (fun h15 => ?_) (fun h15 => ?_)
      · skip
        refine x_aload_n (i := 0) dX4_shaken_25 rfl rfl ?_
        refine x_getr (i := 0) dX4_shaken_26 rfl rfl rfl (by decide) fl_X4_10 inX4 ?_
        refine x_aload_n (i := 0) dX4_shaken_29 rfl rfl ?_
        refine x_getr (i := 0) dX4_shaken_30 rfl rfl rfl (by decide) fl_X4_10 inX4 ?_
        refine x_getr (i := 5) dX4_shaken_33 (sT0 isT1) rfl rfl (by decide) fl_X4_114 inX3 ?_
        refine x_iload_n (i := 1) dX4_shaken_36 rfl rfl ?_
        refine x_ialdE dX4_shaken_37 (sT3 isT1) (by omega) (by decide) (tw_kd hw (by omega)) ?_
        refine x_aload_n (i := 0) dX4_shaken_38 rfl rfl ?_
        refine x_getr (i := 0) dX4_shaken_39 rfl rfl rfl (by decide) fl_X4_10 inX4 ?_
        refine x_getr (i := 6) dX4_shaken_42 (sT0 isT1) rfl rfl (by decide) fl_X4_117 inX3 ?_
        refine x_iload_n (i := 1) dX4_shaken_45 rfl rfl ?_
        refine x_ialdE dX4_shaken_46 (sT4 isT1) (by omega) (by decide) (tw_ws hw (by omega)) ?_
        refine x_iload_n (i := 2) dX4_shaken_47 rfl rfl ?_
        refine x_v3i dX4_shaken_48 okX3_shakingBy ml_X4_132 (sT0 isT1) rfl (Nat.le_of_ble_eq_true rfl) ⟨by decide, by decide⟩ (Nat.le_of_ble_eq_true rfl) (c_X3_shakingBy isT1 hw _ _ hr ?_)
        exact x_ireti dX4_shaken_51 rfl (hk σ hS)
      · exact absurd hc.2 h15
  · unfold oShaken at hk
    rw [if_neg hc] at hk
    refine x_aload_n (i := 0) dX4_shaken_0 rfl rfl ?_
    refine x_getr (i := 0) dX4_shaken_1 rfl rfl rfl (by decide) fl_X4_10 inX4 ?_
    refine x_iload_n (i := 1) dX4_shaken_4 rfl rfl ?_
    refine x_v1i dX4_shaken_5 okX3_hasDriver ml_X4_111 (sT0 isT1) rfl (Nat.le_of_ble_eq_true rfl) ⟨by decide, by decide⟩ (Nat.le_of_ble_eq_true rfl) (c_X3_hasDriver isT1 hw _ ?_)
    refine x_ifeqP (tgt := 18) dX4_shaken_8 rfl (fun h8 => ?_) (fun h8 => ?_)
    · skip
      refine x_aload_n (i := 0) dX4_shaken_18 rfl rfl ?_
      refine x_ldc (v := -1000000001) dX4_shaken_19 kc_X4_52 ?_
      refine x_v1i dX4_shaken_21 okX4_tell ml_X4_53 rfl rfl (Nat.le_of_ble_eq_true rfl) ⟨by decide, by decide⟩ (Nat.le_of_ble_eq_true rfl) (c_X4_tell hS 0 (by decide) (by decide) (by decide) (fun τ hτ => ?_))
      exact x_ireti dX4_shaken_24 rfl (hk τ hτ)
    · skip
      refine x_iload_n (i := 2) dX4_shaken_11 rfl rfl ?_
      refine x_s1i dX4_shaken_12 okX4_isStreet ml_X4_75 (Nat.le_of_ble_eq_true rfl) ⟨by decide, by decide⟩ (Nat.le_of_ble_eq_true rfl) (c_X4_isStreet _ ?_)
      refine x_ifneP (tgt := 25) dX4_shaken_15 rfl (fun h15 => ?_) (fun h15 => ?_)
      · exact absurd ⟨h8, h15⟩ hc
      · skip
        refine x_aload_n (i := 0) dX4_shaken_18 rfl rfl ?_
        refine x_ldc (v := -1000000001) dX4_shaken_19 kc_X4_52 ?_
        refine x_v1i dX4_shaken_21 okX4_tell ml_X4_53 rfl rfl (Nat.le_of_ble_eq_true rfl) ⟨by decide, by decide⟩ (Nat.le_of_ble_eq_true rfl) (c_X4_tell hS 0 (by decide) (by decide) (by decide) (fun τ hτ => ?_))
        exact x_ireti dX4_shaken_24 rfl (hk τ hτ)
set_option maxHeartbeats 4000000 in
set_option maxRecDepth 20000 in
theorem c_X4_days {σ : xH} {K : Int32 → xH → Prop} {S : St} (hS : cS σ S) (m : Int32) (hk : ∀ τ, cS τ (oDays S m).2 → K (oDays S m).1 τ) : Evi l (oC ad D cy) mX4_days [.ref 0, .int m] σ K := by
  have hw := hS.1
  have h8 := tw_8 hw
  refine x_enter (ls := [some (.ref 0), some (.int m)]) rfl ?_
  by_cases hc : vR (nI 1) (nI 100) m
  · unfold oDays at hk
    rw [if_pos hc] at hk
    obtain ⟨m, hm0, hm, rfl⟩ := vR_of hc (by decide) (by decide)
    simp only [cn, nI_clamp (show m < 2 ^ 31 by omega)] at hk
    refine x_iload_n (i := 1) dX4_days_0 rfl rfl ?_
    refine x_iconstN (n := 1) dX4_days_1 ?_
    refine x_bipush (v := nI 100) dX4_days_2 (by decide) ?_
    refine x_s3i dX4_days_4 okX4_isWithin ml_X4_48 (Nat.le_of_ble_eq_true rfl) ⟨by decide, by decide⟩ (Nat.le_of_ble_eq_true rfl) (c_X4_isWithin _ _ _ ?_)
    refine x_ifneP (tgt := 17) dX4_days_7 rfl (fun h7 => ?_) (fun h7 => ?_)
    · skip
      refine x_aload_n (i := 0) dX4_days_17 rfl rfl ?_
      refine x_getr (i := 0) dX4_days_18 rfl rfl rfl (by decide) fl_X4_10 inX4 ?_
      refine x_getiE (i := 0) dX4_days_21 (sT0 isT1) rfl rfl (by decide) fl_X4_91 inX3 (tw_day hw) ?_
      refine x_iload_n (i := 1) dX4_days_24 rfl rfl ?_
      refine x_iadd dX4_days_25 ?_
      refine x_sipush (v := nI 9999) dX4_days_26 (by decide) ?_
      refine x_icle (tgt := 39) dX4_days_29 rfl (fun h29 => ?_) (fun h29 => ?_)
      · skip
        refine x_aload_n (i := 0) dX4_days_39 rfl rfl ?_
        refine x_getr (i := 0) dX4_days_40 rfl rfl rfl (by decide) fl_X4_10 inX4 ?_
        refine x_iload_n (i := 1) dX4_days_43 rfl rfl ?_
        refine x_v1v dX4_days_44 okX3_letDaysGo ml_X4_148 (sT0 isT1) rfl (Nat.le_of_ble_eq_true rfl) ⟨by decide, by decide⟩ (Nat.le_of_ble_eq_true rfl) (c_X3_letDaysGo isT1 hw hm (fun τ hw1 hf1 => ?_))
        refine x_aload_n (i := 0) dX4_days_47 rfl rfl ?_
        refine x_getr (i := 0) dX4_days_48 rfl rfl rfl (by decide) fl_X4_10 inX4 ?_
        refine x_v0i dX4_days_51 okX3_shakingOfAll ml_X4_94 (sT0 isT1) rfl (Nat.le_of_ble_eq_true rfl) ⟨by decide, by decide⟩ (Nat.le_of_ble_eq_true rfl) (c_X3_shakingOfAll isT1 hw1 ?_)
        exact x_ireti dX4_days_54 rfl (by rw [if_pos h29] at hk; exact hk τ (cS_1 hS hf1 hw1))
      · skip
        refine x_aload_n (i := 0) dX4_days_32 rfl rfl ?_
        refine x_ldc (v := -1000000005) dX4_days_33 kc_X4_147 ?_
        refine x_v1i dX4_days_35 okX4_tell ml_X4_53 rfl rfl (Nat.le_of_ble_eq_true rfl) ⟨by decide, by decide⟩ (Nat.le_of_ble_eq_true rfl) (c_X4_tell hS 4 (by decide) (by decide) (by decide) (fun τ hτ => ?_))
        exact x_ireti dX4_days_38 rfl (by rw [if_neg h29] at hk; exact hk τ hτ)
    · exact absurd hc h7
  · unfold oDays at hk
    rw [if_neg hc] at hk
    refine x_iload_n (i := 1) dX4_days_0 rfl rfl ?_
    refine x_iconstN (n := 1) dX4_days_1 ?_
    refine x_bipush (v := nI 100) dX4_days_2 (by decide) ?_
    refine x_s3i dX4_days_4 okX4_isWithin ml_X4_48 (Nat.le_of_ble_eq_true rfl) ⟨by decide, by decide⟩ (Nat.le_of_ble_eq_true rfl) (c_X4_isWithin _ _ _ ?_)
    refine x_ifneP (tgt := 17) dX4_days_7 rfl (fun h7 => ?_) (fun h7 => ?_)
    · exact absurd h7 hc
    · skip
      refine x_aload_n (i := 0) dX4_days_10 rfl rfl ?_
      refine x_ldc (v := -1000000001) dX4_days_11 kc_X4_52 ?_
      refine x_v1i dX4_days_13 okX4_tell ml_X4_53 rfl rfl (Nat.le_of_ble_eq_true rfl) ⟨by decide, by decide⟩ (Nat.le_of_ble_eq_true rfl) (c_X4_tell hS 0 (by decide) (by decide) (by decide) (fun τ hτ => ?_))
      exact x_ireti dX4_days_16 rfl (hk τ hτ)
set_option maxHeartbeats 4000000 in
set_option maxRecDepth 20000 in
theorem c_X4_on {σ : xH} {K : Int32 → xH → Prop} {S : St} (hS : cS σ S) (d m : Int32) (hk : ∀ τ, cS τ (oOn S d m).2 → K (oOn S d m).1 τ) : Evi l (oC ad D cy) mX4_on [.ref 0, .int d, .int m] σ K := by
  have hw := hS.1
  have h8 := tw_8 hw
  refine x_enter (ls := [some (.ref 0), some (.int d), some (.int m)]) rfl ?_
  by_cases hc : vN (tN (gT S)) d ∧ vR (nI 0) (nI 100) m
  · unfold oOn at hk
    rw [if_pos hc] at hk
    obtain ⟨d, hd, rfl⟩ := vN_of hc.1 (by omega)
    have hg := tw_g3 hw hd
    have h8d : d < 2 ^ 31 := by omega
    simp only [cn, nI_clamp h8d] at hk
    obtain ⟨m, hm0, hm, rfl⟩ := vR_of hc.2 (by decide) (by decide)
    simp only [nI_clamp (show m < 2 ^ 31 by omega)] at hk
    have hn : tN (daysC (gT S) m) = tN (gT S) := daysC_n _ _
    refine x_aload_n (i := 0) dX4_on_0 rfl rfl ?_
    refine x_getr (i := 0) dX4_on_1 rfl rfl rfl (by decide) fl_X4_10 inX4 ?_
    refine x_iload_n (i := 1) dX4_on_4 rfl rfl ?_
    refine x_v1i dX4_on_5 okX3_hasDriver ml_X4_111 (sT0 isT1) rfl (Nat.le_of_ble_eq_true rfl) ⟨by decide, by decide⟩ (Nat.le_of_ble_eq_true rfl) (c_X3_hasDriver isT1 hw _ ?_)
    refine x_ifeqP (tgt := 21) dX4_on_8 rfl (fun h8 => ?_) (fun h8 => ?_)
    · exact absurd hc.1 h8
    · skip
      refine x_iload_n (i := 2) dX4_on_11 rfl rfl ?_
      refine x_iconstN (n := 0) dX4_on_12 ?_
      refine x_bipush (v := nI 100) dX4_on_13 (by decide) ?_
      refine x_s3i dX4_on_15 okX4_isWithin ml_X4_48 (Nat.le_of_ble_eq_true rfl) ⟨by decide, by decide⟩ (Nat.le_of_ble_eq_true rfl) (c_X4_isWithin _ _ _ ?_)
      refine x_ifneP (tgt := 28) dX4_on_18 rfl (fun h18 => ?_) (fun h18 => ?_)
      · skip
        refine x_aload_n (i := 0) dX4_on_28 rfl rfl ?_
        refine x_getr (i := 2) dX4_on_29 rfl rfl rfl (by decide) fl_X4_19 inX4 ?_
        refine x_aload_n (i := 0) dX4_on_32 rfl rfl ?_
        refine x_getr (i := 0) dX4_on_33 rfl rfl rfl (by decide) fl_X4_10 inX4 ?_
        refine x_v1v dX4_on_36 okX3_becomeLike ml_X4_152 (sT0 isT13) rfl (Nat.le_of_ble_eq_true rfl) ⟨by decide, by decide⟩ (Nat.le_of_ble_eq_true rfl) (c_X3_becomeLike isT13 isT1 hw (by omega) (fun τ hw1 hf1 => ?_))
        refine x_aload_n (i := 0) dX4_on_39 rfl rfl ?_
        refine x_getr (i := 2) dX4_on_40 rfl rfl rfl (by decide) fl_X4_19 inX4 ?_
        refine x_iload_n (i := 2) dX4_on_43 rfl rfl ?_
        refine x_v1v dX4_on_44 okX3_letDaysGo ml_X4_148 (sT0 isT13) rfl (Nat.le_of_ble_eq_true rfl) ⟨by decide, by decide⟩ (Nat.le_of_ble_eq_true rfl) (c_X3_letDaysGo isT13 hw1 hm (fun υ hw2 hf2 => ?_))
        refine x_aload_n (i := 0) dX4_on_47 rfl rfl ?_
        refine x_getr (i := 2) dX4_on_48 rfl rfl rfl (by decide) fl_X4_19 inX4 ?_
        refine x_getr (i := 7) dX4_on_51 (sT0 isT13) rfl rfl (by decide) fl_X4_120 inX3 ?_
        refine x_iload_n (i := 1) dX4_on_54 rfl rfl ?_
        refine x_ialdE dX4_on_55 (sT5 isT13) (by omega) (by decide) (tw_go hw2 (d := d) (by omega)) ?_
        exact x_ireti dX4_on_56 rfl (hk υ (cS_13 hS (fr_tr hf1 hf2)))
      · exact absurd hc.2 h18
  · unfold oOn at hk
    rw [if_neg hc] at hk
    refine x_aload_n (i := 0) dX4_on_0 rfl rfl ?_
    refine x_getr (i := 0) dX4_on_1 rfl rfl rfl (by decide) fl_X4_10 inX4 ?_
    refine x_iload_n (i := 1) dX4_on_4 rfl rfl ?_
    refine x_v1i dX4_on_5 okX3_hasDriver ml_X4_111 (sT0 isT1) rfl (Nat.le_of_ble_eq_true rfl) ⟨by decide, by decide⟩ (Nat.le_of_ble_eq_true rfl) (c_X3_hasDriver isT1 hw _ ?_)
    refine x_ifeqP (tgt := 21) dX4_on_8 rfl (fun h8 => ?_) (fun h8 => ?_)
    · skip
      refine x_aload_n (i := 0) dX4_on_21 rfl rfl ?_
      refine x_ldc (v := -1000000001) dX4_on_22 kc_X4_52 ?_
      refine x_v1i dX4_on_24 okX4_tell ml_X4_53 rfl rfl (Nat.le_of_ble_eq_true rfl) ⟨by decide, by decide⟩ (Nat.le_of_ble_eq_true rfl) (c_X4_tell hS 0 (by decide) (by decide) (by decide) (fun τ hτ => ?_))
      exact x_ireti dX4_on_27 rfl (hk τ hτ)
    · skip
      refine x_iload_n (i := 2) dX4_on_11 rfl rfl ?_
      refine x_iconstN (n := 0) dX4_on_12 ?_
      refine x_bipush (v := nI 100) dX4_on_13 (by decide) ?_
      refine x_s3i dX4_on_15 okX4_isWithin ml_X4_48 (Nat.le_of_ble_eq_true rfl) ⟨by decide, by decide⟩ (Nat.le_of_ble_eq_true rfl) (c_X4_isWithin _ _ _ ?_)
      refine x_ifneP (tgt := 28) dX4_on_18 rfl (fun h18 => ?_) (fun h18 => ?_)
      · exact absurd ⟨h8, h18⟩ hc
      · skip
        refine x_aload_n (i := 0) dX4_on_21 rfl rfl ?_
        refine x_ldc (v := -1000000001) dX4_on_22 kc_X4_52 ?_
        refine x_v1i dX4_on_24 okX4_tell ml_X4_53 rfl rfl (Nat.le_of_ble_eq_true rfl) ⟨by decide, by decide⟩ (Nat.le_of_ble_eq_true rfl) (c_X4_tell hS 0 (by decide) (by decide) (by decide) (fun τ hτ => ?_))
        exact x_ireti dX4_on_27 rfl (hk τ hτ)
set_option maxHeartbeats 4000000 in
set_option maxRecDepth 20000 in
theorem c_X4_then {σ : xH} {K : Int32 → xH → Prop} {S : St} (hS : cS σ S) (m c : Int32) (hk : ∀ τ, cS τ (oThen S m c).2 → K (oThen S m c).1 τ) : Evi l (oC ad D cy) mX4_then [.ref 0, .int m, .int c] σ K := by
  have hw := hS.1
  have h8 := tw_8 hw
  refine x_enter (ls := [some (.ref 0), some (.int m), some (.int c)]) rfl ?_
  by_cases hc : vR (nI 0) (nI 100) m ∧ vR (nI 0) (nI 1) c
  · unfold oThen at hk
    rw [if_pos hc] at hk
    obtain ⟨m, hm0, hm, rfl⟩ := vR_of hc.1 (by decide) (by decide)
    simp only [cn, nI_clamp (show m < 2 ^ 31 by omega)] at hk
    refine x_iload_n (i := 1) dX4_then_0 rfl rfl ?_
    refine x_iconstN (n := 0) dX4_then_1 ?_
    refine x_bipush (v := nI 100) dX4_then_2 (by decide) ?_
    refine x_s3i dX4_then_4 okX4_isWithin ml_X4_48 (Nat.le_of_ble_eq_true rfl) ⟨by decide, by decide⟩ (Nat.le_of_ble_eq_true rfl) (c_X4_isWithin _ _ _ ?_)
    refine x_ifeqP (tgt := 19) dX4_then_7 rfl (fun h7 => ?_) (fun h7 => ?_)
    · exact absurd hc.1 h7
    · skip
      refine x_iload_n (i := 2) dX4_then_10 rfl rfl ?_
      refine x_iconstN (n := 0) dX4_then_11 ?_
      refine x_iconstN (n := 1) dX4_then_12 ?_
      refine x_s3i dX4_then_13 okX4_isWithin ml_X4_48 (Nat.le_of_ble_eq_true rfl) ⟨by decide, by decide⟩ (Nat.le_of_ble_eq_true rfl) (c_X4_isWithin _ _ _ ?_)
      refine x_ifneP (tgt := 26) dX4_then_16 rfl (fun h16 => ?_) (fun h16 => ?_)
      · skip
        refine x_aload_n (i := 0) dX4_then_26 rfl rfl ?_
        refine x_getr (i := 2) dX4_then_27 rfl rfl rfl (by decide) fl_X4_19 inX4 ?_
        refine x_aload_n (i := 0) dX4_then_30 rfl rfl ?_
        refine x_getr (i := 0) dX4_then_31 rfl rfl rfl (by decide) fl_X4_10 inX4 ?_
        refine x_v1v dX4_then_34 okX3_becomeLike ml_X4_152 (sT0 isT13) rfl (Nat.le_of_ble_eq_true rfl) ⟨by decide, by decide⟩ (Nat.le_of_ble_eq_true rfl) (c_X3_becomeLike isT13 isT1 hw (by omega) (fun τ hw1 hf1 => ?_))
        refine x_aload_n (i := 0) dX4_then_37 rfl rfl ?_
        refine x_getr (i := 2) dX4_then_38 rfl rfl rfl (by decide) fl_X4_19 inX4 ?_
        refine x_iload_n (i := 1) dX4_then_41 rfl rfl ?_
        refine x_v1v dX4_then_42 okX3_letDaysGo ml_X4_148 (sT0 isT13) rfl (Nat.le_of_ble_eq_true rfl) ⟨by decide, by decide⟩ (Nat.le_of_ble_eq_true rfl) (c_X3_letDaysGo isT13 hw1 hm (fun υ hw2 hf2 => ?_))
        refine x_iload_n (i := 2) dX4_then_45 rfl rfl ?_
        refine x_ifne (tgt := 59) dX4_then_46 rfl (fun h46 => ?_) (fun h46 => ?_)
        · skip
          refine x_aload_n (i := 0) dX4_then_59 rfl rfl ?_
          refine x_getr (i := 2) dX4_then_60 rfl rfl rfl (by decide) fl_X4_19 inX4 ?_
          refine x_v0i dX4_then_63 okX3_timeOfAll ml_X4_98 (sT0 isT13) rfl (Nat.le_of_ble_eq_true rfl) ⟨by decide, by decide⟩ (Nat.le_of_ble_eq_true rfl) (c_X3_timeOfAll isT13 hw2 ?_)
          exact x_ireti dX4_then_66 rfl (by first | (rw [if_pos h46] at hk; exact hk υ (cS_13 hS (fr_tr hf1 hf2))) | (rw [if_neg h46] at hk; exact hk υ (cS_13 hS (fr_tr hf1 hf2))))
        · skip
          refine x_aload_n (i := 0) dX4_then_49 rfl rfl ?_
          refine x_getr (i := 2) dX4_then_50 rfl rfl rfl (by decide) fl_X4_19 inX4 ?_
          refine x_v0i dX4_then_53 okX3_shakingOfAll ml_X4_94 (sT0 isT13) rfl (Nat.le_of_ble_eq_true rfl) ⟨by decide, by decide⟩ (Nat.le_of_ble_eq_true rfl) (c_X3_shakingOfAll isT13 hw2 ?_)
          refine x_goto (tgt := 66) dX4_then_56 rfl ?_
          exact x_ireti dX4_then_66 rfl (by first | (rw [if_pos h46] at hk; exact hk υ (cS_13 hS (fr_tr hf1 hf2))) | (rw [if_neg h46] at hk; exact hk υ (cS_13 hS (fr_tr hf1 hf2))))
      · exact absurd hc.2 h16
  · unfold oThen at hk
    rw [if_neg hc] at hk
    refine x_iload_n (i := 1) dX4_then_0 rfl rfl ?_
    refine x_iconstN (n := 0) dX4_then_1 ?_
    refine x_bipush (v := nI 100) dX4_then_2 (by decide) ?_
    refine x_s3i dX4_then_4 okX4_isWithin ml_X4_48 (Nat.le_of_ble_eq_true rfl) ⟨by decide, by decide⟩ (Nat.le_of_ble_eq_true rfl) (c_X4_isWithin _ _ _ ?_)
    refine x_ifeqP (tgt := 19) dX4_then_7 rfl (fun h7 => ?_) (fun h7 => ?_)
    · skip
      refine x_aload_n (i := 0) dX4_then_19 rfl rfl ?_
      refine x_ldc (v := -1000000001) dX4_then_20 kc_X4_52 ?_
      refine x_v1i dX4_then_22 okX4_tell ml_X4_53 rfl rfl (Nat.le_of_ble_eq_true rfl) ⟨by decide, by decide⟩ (Nat.le_of_ble_eq_true rfl) (c_X4_tell hS 0 (by decide) (by decide) (by decide) (fun τ hτ => ?_))
      exact x_ireti dX4_then_25 rfl (hk τ hτ)
    · skip
      refine x_iload_n (i := 2) dX4_then_10 rfl rfl ?_
      refine x_iconstN (n := 0) dX4_then_11 ?_
      refine x_iconstN (n := 1) dX4_then_12 ?_
      refine x_s3i dX4_then_13 okX4_isWithin ml_X4_48 (Nat.le_of_ble_eq_true rfl) ⟨by decide, by decide⟩ (Nat.le_of_ble_eq_true rfl) (c_X4_isWithin _ _ _ ?_)
      refine x_ifneP (tgt := 26) dX4_then_16 rfl (fun h16 => ?_) (fun h16 => ?_)
      · exact absurd ⟨h7, h16⟩ hc
      · skip
        refine x_aload_n (i := 0) dX4_then_19 rfl rfl ?_
        refine x_ldc (v := -1000000001) dX4_then_20 kc_X4_52 ?_
        refine x_v1i dX4_then_22 okX4_tell ml_X4_53 rfl rfl (Nat.le_of_ble_eq_true rfl) ⟨by decide, by decide⟩ (Nat.le_of_ble_eq_true rfl) (c_X4_tell hS 0 (by decide) (by decide) (by decide) (fun τ hτ => ?_))
        exact x_ireti dX4_then_25 rfl (hk τ hτ)
end
