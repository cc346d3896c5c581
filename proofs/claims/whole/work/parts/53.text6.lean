section
variable {l : Launch} {ad : Nat → Nat} {D : va_G} {cy : Nat → ClassId}
/-! THE PARSE -/
def nx (b : Nat → Int32) (L s : Nat) : Nat := tSt b L (eS b L s)
theorem nx_le {b : Nat → Int32} {L s : Nat} (h : s ≤ L) : nx b L s ≤ L := (tSt_le (eS_le h).2).2
abbrev num (b : Nat → Int32) (L s lo hi : Nat) : Prop := kS b L s = 2 ∧ lo ≤ vS b L s ∧ vS b L s ≤ hi
def kN (b : Nat → Int32) (L s : Nat) : Int32 := if isW b L s 0 = true then nI 0 else if isW b L s 1 = true then nI 1 else if isW b L s 2 = true then nI 2 else if isW b L s 3 = true then nI 3 else if isW b L s 4 = true then nI 4 else if isW b L s 5 = true then nI 5 else -1
def tNm (b : Nat → Int32) (L s : Nat) : Int32 := if isW b L s 8 = true then nI 0 else if isW b L s 9 = true then nI 1 else if isW b L s 10 = true then nI 2 else if isW b L s 11 = true then nI 3 else if isW b L s 12 = true then nI 4 else -1
theorem vS_le (b : Nat → Int32) (L s : Nat) : vS b L s ≤ 1000 := by
  unfold vS
  have := dV_le b s (eS b L s - s)
  repeat' split
  all_goals omega
/-- where the class stands in the text: the token at s, the town so far in the trial town -/
def pc (σ : xH) (b : Nat → Int32) (L s : Nat) (T : Tw) : Prop := tp σ b L ∧ cT σ b L s ∧ tw σ 13 T ∧ s ≤ L
/-- only the trial town and the tape's own numbers may have changed -/
def fp (σ τ : xH) : Prop := τ.2 = σ.2 ∧ ∀ q, (q < 13 ∨ 19 < q) → τ.1 q = σ.1 q
theorem fp_rf (σ : xH) : fp σ σ := ⟨rfl, fun _ _ => rfl⟩
theorem fp_tr {σ τ υ : xH} (h : fp σ τ) (g : fp τ υ) : fp σ υ := ⟨g.1.trans h.1, fun q a => (g.2 q a).trans (h.2 q a)⟩
theorem ff_fp {k : Nat} {σ τ : xH} (h : ff k σ τ) : fp σ τ := ⟨h.1, fun q a => h.2.1 q (by omega)⟩
theorem fr_fp {σ τ : xH} (h : fr 13 σ τ) : fp σ τ := ⟨h.1, fun q a => h.2 q (by omega)⟩
theorem tw_ff {σ τ : xH} {k : Nat} {T : Tw} (h : tw σ 13 T) (f : ff k σ τ) : tw τ 13 T := tw_keep h (fun j hj => f.2.1 _ (by omega))
theorem pc_fr {σ τ : xH} {b : Nat → Int32} {L s : Nat} {T U : Tw} (h : pc σ b L s T) (f : fr 13 σ τ) (hw : tw τ 13 U) : pc τ b L s U := by
  obtain ⟨⟨h1, h2, h3⟩, ⟨g1, g2, g3, g4⟩, -, h5⟩ := h
  have e : τ.1 19 = σ.1 19 := f.2 19 (by omega)
  exact ⟨⟨by rw [e]; exact h1, fun i hi => by rw [f.2 20 (by omega)]; exact h2 i hi, h3⟩, ⟨by rw [e]; exact g1, by rw [e]; exact g2, by rw [e]; exact g3, by rw [e]; exact g4⟩, hw, h5⟩
theorem c_next {σ : xH} {K : xH → Prop} {b : Nat → Int32} {L s : Nat} {T : Tw} (h : pc σ b L s T) (hk : ∀ τ, pc τ b L (nx b L s) T → fp σ τ → K τ) : Evv l (oC ad D cy) mX2_nextToken [.ref 19] σ K :=
  c_X2_nextToken h.1 (eS_le h.2.2.2).2 h.2.1.2.2.1 (fun τ hT hf => hk τ ⟨tp_ff h.1 hf (by omega), hT, tw_ff h.2.2.1 hf, nx_le h.2.2.2⟩ (ff_fp hf))
theorem c_num {σ : xH} {K : Int32 → xH → Prop} {b : Nat → Int32} {L s : Nat} {T : Tw} (h : pc σ b L s T) {lo hi : Nat} (hl : lo < 2 ^ 31) (hh : hi < 2 ^ 31) (hk : ∀ p : Prop, [Decidable p] → (p ↔ num b L s lo hi) → K (xb p) σ) : Evi l (oC ad D cy) mX2_isNumber [.ref 19, .int (nI lo), .int (nI hi)] σ K := by
  have hv := vS_le b L s
  have h4 := kS_4 b L s
  refine c_X2_isNumber h.2.1.1 (by omega) h.2.1.2.2.2 (hk _ ⟨fun z => ⟨z.1, Nat.not_lt.mp (fun q => z.2.1 (nI_lt q hl)), Nat.not_lt.mp (fun q => z.2.2 (nI_lt q (by omega)))⟩, fun z => ⟨z.1, fun q => by have := (nI_ltI (by omega) hl).mp q; have := z.2.1; omega, fun q => by have := (nI_ltI hh (by omega)).mp q; have := z.2.2; omega⟩⟩)
set_option maxHeartbeats 4000000 in
set_option maxRecDepth 20000 in
theorem c_X2_kindNamed {σ : xH} {K : Int32 → xH → Prop} {b : Nat → Int32} {L s : Nat} {T : Tw} (h : pc σ b L s T) (hk : K (kN b L s) σ) : Evi l (oC ad D cy) mX2_kindNamed [.ref 19] σ K := by
  refine x_enter (ls := [some (.ref 19)]) rfl ?_
  refine x_aload_n (i := 0) dX2_kindNamed_0 rfl rfl ?_
  refine x_ldcs (i := 0) rfl rfl dX2_kindNamed_1 ?_
  refine x_v1i dX2_kindNamed_3 okX2_isWord ml_X2_51 rfl rfl (Nat.le_of_ble_eq_true rfl) ⟨by decide, by decide⟩ (Nat.le_of_ble_eq_true rfl) (c_X2_isWord (w := 0) (by decide) h.1 h.2.1 h.2.2.2 ?_)
  refine x_ifeqP (tgt := 11) dX2_kindNamed_6 rfl (fun h6 => ?_) (fun h6 => ?_)
  · skip
    refine x_aload_n (i := 0) dX2_kindNamed_11 rfl rfl ?_
    refine x_ldcs (i := 1) rfl rfl dX2_kindNamed_12 ?_
    refine x_v1i dX2_kindNamed_14 okX2_isWord ml_X2_51 rfl rfl (Nat.le_of_ble_eq_true rfl) ⟨by decide, by decide⟩ (Nat.le_of_ble_eq_true rfl) (c_X2_isWord (w := 1) (by decide) h.1 h.2.1 h.2.2.2 ?_)
    refine x_ifeqP (tgt := 22) dX2_kindNamed_17 rfl (fun h17 => ?_) (fun h17 => ?_)
    · skip
      refine x_aload_n (i := 0) dX2_kindNamed_22 rfl rfl ?_
      refine x_ldcs (i := 2) rfl rfl dX2_kindNamed_23 ?_
      refine x_v1i dX2_kindNamed_25 okX2_isWord ml_X2_51 rfl rfl (Nat.le_of_ble_eq_true rfl) ⟨by decide, by decide⟩ (Nat.le_of_ble_eq_true rfl) (c_X2_isWord (w := 2) (by decide) h.1 h.2.1 h.2.2.2 ?_)
      refine x_ifeqP (tgt := 33) dX2_kindNamed_28 rfl (fun h28 => ?_) (fun h28 => ?_)
      · skip
        refine x_aload_n (i := 0) dX2_kindNamed_33 rfl rfl ?_
        refine x_ldcs (i := 3) rfl rfl dX2_kindNamed_34 ?_
        refine x_v1i dX2_kindNamed_36 okX2_isWord ml_X2_51 rfl rfl (Nat.le_of_ble_eq_true rfl) ⟨by decide, by decide⟩ (Nat.le_of_ble_eq_true rfl) (c_X2_isWord (w := 3) (by decide) h.1 h.2.1 h.2.2.2 ?_)
        refine x_ifeqP (tgt := 44) dX2_kindNamed_39 rfl (fun h39 => ?_) (fun h39 => ?_)
        · skip
          refine x_aload_n (i := 0) dX2_kindNamed_44 rfl rfl ?_
          refine x_ldcs (i := 4) rfl rfl dX2_kindNamed_45 ?_
          refine x_v1i dX2_kindNamed_47 okX2_isWord ml_X2_51 rfl rfl (Nat.le_of_ble_eq_true rfl) ⟨by decide, by decide⟩ (Nat.le_of_ble_eq_true rfl) (c_X2_isWord (w := 4) (by decide) h.1 h.2.1 h.2.2.2 ?_)
          refine x_ifeqP (tgt := 55) dX2_kindNamed_50 rfl (fun h50 => ?_) (fun h50 => ?_)
          · skip
            refine x_aload_n (i := 0) dX2_kindNamed_55 rfl rfl ?_
            refine x_ldcs (i := 5) rfl rfl dX2_kindNamed_56 ?_
            refine x_v1i dX2_kindNamed_58 okX2_isWord ml_X2_51 rfl rfl (Nat.le_of_ble_eq_true rfl) ⟨by decide, by decide⟩ (Nat.le_of_ble_eq_true rfl) (c_X2_isWord (w := 5) (by decide) h.1 h.2.1 h.2.2.2 ?_)
            refine x_ifeqP (tgt := 68) dX2_kindNamed_61 rfl (fun h61 => ?_) (fun h61 => ?_)
            · skip
              refine x_iconst (v := -1) dX2_kindNamed_68 (by decide) ?_
              exact x_ireti dX2_kindNamed_69 rfl (by unfold kN at hk; rw [if_neg h6, if_neg h17, if_neg h28, if_neg h39, if_neg h50, if_neg h61] at hk; exact hk)
            · skip
              refine x_iconstN (n := 5) dX2_kindNamed_64 ?_
              refine x_goto (tgt := 69) dX2_kindNamed_65 rfl ?_
              exact x_ireti dX2_kindNamed_69 rfl (by unfold kN at hk; rw [if_neg h6, if_neg h17, if_neg h28, if_neg h39, if_neg h50, if_pos h61] at hk; exact hk)
          · skip
            refine x_iconstN (n := 4) dX2_kindNamed_53 ?_
            exact x_ireti dX2_kindNamed_54 rfl (by unfold kN at hk; rw [if_neg h6, if_neg h17, if_neg h28, if_neg h39, if_pos h50] at hk; exact hk)
        · skip
          refine x_iconstN (n := 3) dX2_kindNamed_42 ?_
          exact x_ireti dX2_kindNamed_43 rfl (by unfold kN at hk; rw [if_neg h6, if_neg h17, if_neg h28, if_pos h39] at hk; exact hk)
      · skip
        refine x_iconstN (n := 2) dX2_kindNamed_31 ?_
        exact x_ireti dX2_kindNamed_32 rfl (by unfold kN at hk; rw [if_neg h6, if_neg h17, if_pos h28] at hk; exact hk)
    · skip
      refine x_iconstN (n := 1) dX2_kindNamed_20 ?_
      exact x_ireti dX2_kindNamed_21 rfl (by unfold kN at hk; rw [if_neg h6, if_pos h17] at hk; exact hk)
  · skip
    refine x_iconstN (n := 0) dX2_kindNamed_9 ?_
    exact x_ireti dX2_kindNamed_10 rfl (by unfold kN at hk; rw [if_pos h6] at hk; exact hk)
set_option maxHeartbeats 4000000 in
set_option maxRecDepth 20000 in
theorem c_X2_thingNamed {σ : xH} {K : Int32 → xH → Prop} {b : Nat → Int32} {L s : Nat} {T : Tw} (h : pc σ b L s T) (hk : K (tNm b L s) σ) : Evi l (oC ad D cy) mX2_thingNamed [.ref 19] σ K := by
  refine x_enter (ls := [some (.ref 19)]) rfl ?_
  refine x_aload_n (i := 0) dX2_thingNamed_0 rfl rfl ?_
  refine x_ldcs (i := 8) rfl rfl dX2_thingNamed_1 ?_
  refine x_v1i dX2_thingNamed_3 okX2_isWord ml_X2_51 rfl rfl (Nat.le_of_ble_eq_true rfl) ⟨by decide, by decide⟩ (Nat.le_of_ble_eq_true rfl) (c_X2_isWord (w := 8) (by decide) h.1 h.2.1 h.2.2.2 ?_)
  refine x_ifeqP (tgt := 11) dX2_thingNamed_6 rfl (fun h6 => ?_) (fun h6 => ?_)
  · skip
    refine x_aload_n (i := 0) dX2_thingNamed_11 rfl rfl ?_
    refine x_ldcs (i := 9) rfl rfl dX2_thingNamed_12 ?_
    refine x_v1i dX2_thingNamed_14 okX2_isWord ml_X2_51 rfl rfl (Nat.le_of_ble_eq_true rfl) ⟨by decide, by decide⟩ (Nat.le_of_ble_eq_true rfl) (c_X2_isWord (w := 9) (by decide) h.1 h.2.1 h.2.2.2 ?_)
    refine x_ifeqP (tgt := 22) dX2_thingNamed_17 rfl (fun h17 => ?_) (fun h17 => ?_)
    · skip
      refine x_aload_n (i := 0) dX2_thingNamed_22 rfl rfl ?_
      refine x_ldcs (i := 10) rfl rfl dX2_thingNamed_23 ?_
      refine x_v1i dX2_thingNamed_25 okX2_isWord ml_X2_51 rfl rfl (Nat.le_of_ble_eq_true rfl) ⟨by decide, by decide⟩ (Nat.le_of_ble_eq_true rfl) (c_X2_isWord (w := 10) (by decide) h.1 h.2.1 h.2.2.2 ?_)
      refine x_ifeqP (tgt := 33) dX2_thingNamed_28 rfl (fun h28 => ?_) (fun h28 => ?_)
      · skip
        refine x_aload_n (i := 0) dX2_thingNamed_33 rfl rfl ?_
        refine x_ldcs (i := 11) rfl rfl dX2_thingNamed_34 ?_
        refine x_v1i dX2_thingNamed_36 okX2_isWord ml_X2_51 rfl rfl (Nat.le_of_ble_eq_true rfl) ⟨by decide, by decide⟩ (Nat.le_of_ble_eq_true rfl) (c_X2_isWord (w := 11) (by decide) h.1 h.2.1 h.2.2.2 ?_)
        refine x_ifeqP (tgt := 44) dX2_thingNamed_39 rfl (fun h39 => ?_) (fun h39 => ?_)
        · skip
          refine x_aload_n (i := 0) dX2_thingNamed_44 rfl rfl ?_
          refine x_ldcs (i := 12) rfl rfl dX2_thingNamed_45 ?_
          refine x_v1i dX2_thingNamed_47 okX2_isWord ml_X2_51 rfl rfl (Nat.le_of_ble_eq_true rfl) ⟨by decide, by decide⟩ (Nat.le_of_ble_eq_true rfl) (c_X2_isWord (w := 12) (by decide) h.1 h.2.1 h.2.2.2 ?_)
          refine x_ifeqP (tgt := 57) dX2_thingNamed_50 rfl (fun h50 => ?_) (fun h50 => ?_)
          · skip
            refine x_iconst (v := -1) dX2_thingNamed_57 (by decide) ?_
            exact x_ireti dX2_thingNamed_58 rfl (by unfold tNm at hk; rw [if_neg h6, if_neg h17, if_neg h28, if_neg h39, if_neg h50] at hk; exact hk)
          · skip
            refine x_iconstN (n := 4) dX2_thingNamed_53 ?_
            refine x_goto (tgt := 58) dX2_thingNamed_54 rfl ?_
            exact x_ireti dX2_thingNamed_58 rfl (by unfold tNm at hk; rw [if_neg h6, if_neg h17, if_neg h28, if_neg h39, if_pos h50] at hk; exact hk)
        · skip
          refine x_iconstN (n := 3) dX2_thingNamed_42 ?_
          exact x_ireti dX2_thingNamed_43 rfl (by unfold tNm at hk; rw [if_neg h6, if_neg h17, if_neg h28, if_pos h39] at hk; exact hk)
      · skip
        refine x_iconstN (n := 2) dX2_thingNamed_31 ?_
        exact x_ireti dX2_thingNamed_32 rfl (by unfold tNm at hk; rw [if_neg h6, if_neg h17, if_pos h28] at hk; exact hk)
    · skip
      refine x_iconstN (n := 1) dX2_thingNamed_20 ?_
      exact x_ireti dX2_thingNamed_21 rfl (by unfold tNm at hk; rw [if_neg h6, if_pos h17] at hk; exact hk)
  · skip
    refine x_iconstN (n := 0) dX2_thingNamed_9 ?_
    exact x_ireti dX2_thingNamed_10 rfl (by unfold tNm at hk; rw [if_pos h6] at hk; exact hk)
end
