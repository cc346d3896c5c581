section
variable {l : Launch} {ad : Nat → Nat} {D : va_G} {cy : Nat → ClassId}
theorem vS_31 (b : Nat → Int32) (L s : Nat) : vS b L s < 2 ^ 31 := by
  have := vS_le b L s
  omega
/-- where the model stands in the text -/
def pm (σ : xH) (b : Nat → Int32) (L s : Nat) (T : Tw) : Prop := mp σ b L ∧ mT σ b L s ∧ ms σ 1 T ∧ s ≤ L ∧ mW σ
def gp (σ τ : xH) : Prop := (∀ q, q ≠ 0 → q ≠ 1 → q ≠ 5 → τ.1 q = σ.1 q) ∧ (∀ i, i < 10 → i ≠ 6 → i ≠ 7 → τ.1 0 i = σ.1 0 i) ∧ ∀ q, q ≠ 0 → τ.2 q = σ.2 q
theorem gp_rf (σ : xH) : gp σ σ := ⟨fun _ _ _ _ => rfl, fun _ _ _ _ => rfl, fun _ _ => rfl⟩
theorem gp_tr {σ τ υ : xH} (h : gp σ τ) (g : gp τ υ) : gp σ υ := ⟨fun q a b c => (g.1 q a b c).trans (h.1 q a b c), fun i a b c => (g.2.1 i a b c).trans (h.2.1 i a b c), fun q a => (g.2.2 q a).trans (h.2.2 q a)⟩
theorem gf_gp {k : Nat} {σ τ : xH} (h : gf k σ τ) (hk : 10 ≤ k) : gp σ τ := ⟨fun q a _ _ => h.1 q a, fun i a _ _ => h.2.1 i (by omega), h.2.2⟩
theorem fg_gp {σ τ : xH} (h : fg σ τ) : gp σ τ := ⟨fun q a b c => h.2.1 q a b c, fun i _ b c => h.2.2 i b c, fun q _ => by rw [h.1]⟩
theorem mW_of {σ τ : xH} (h : mW σ) (f : ∀ q, 7 ≤ q → q ≤ 9 → τ.1 q = σ.1 q) : mW τ := ⟨fun i hi => by rw [f 7 (by omega) (by omega)]; exact h.1 i hi, fun i hi => by rw [f 8 (by omega) (by omega)]; exact h.2.1 i hi, fun i hi => by rw [f 9 (by omega) (by omega)]; exact h.2.2 i hi⟩
theorem pm_fg {σ τ : xH} {b : Nat → Int32} {L s : Nat} {T U : Tw} (h : pm σ b L s T) (f : fg σ τ) (hw : ms τ 1 U) : pm τ b L s U := by
  obtain ⟨⟨h1, h2, h3⟩, ⟨g1, g2, g3, g4, g5⟩, -, h5, h6⟩ := h
  exact ⟨⟨by rw [f.2.2 9 (by omega) (by omega)]; exact h1, fun i hi => by rw [f.2.1 6 (by omega) (by omega) (by omega)]; exact h2 i hi, h3⟩, ⟨by rw [f.2.2 10 (by omega) (by omega)]; exact g1, by rw [f.2.2 11 (by omega) (by omega)]; exact g2, by rw [f.2.2 12 (by omega) (by omega)]; exact g3, fun z => by rw [f.1]; exact g4 z, fun z => by rw [f.1]; exact g5 z⟩, hw, h5, mW_of h6 (fun q a c => f.2.1 q (by omega) (by omega) (by omega))⟩
theorem c_nextM {σ : xH} {K : xH → Prop} {b : Nat → Int32} {L s : Nat} {T : Tw} (h : pm σ b L s T) (hk : ∀ τ, pm τ b L (nx b L s) T → gp σ τ → K τ) : Evv l (oM ad D cy) mX5_nextToken [.ref 0] σ K :=
  c_X5_nextToken h.1 (eS_le h.2.2.2.1).2 h.2.1.2.2.1 (fun τ hT hf => hk τ ⟨mp_gf h.1 hf (by omega), hT, ms_keep h.2.2.1 (fun i _ => by rw [hf.1 1 (by omega)]), nx_le h.2.2.2.1, mW_of h.2.2.2.2 (fun q a c => hf.1 q (by omega))⟩ (gf_gp hf (by omega)))
set_option maxHeartbeats 4000000 in
set_option maxRecDepth 20000 in
theorem c_X5_takesNumber {σ : xH} {K : Int32 → xH → Prop} {b : Nat → Int32} {L s : Nat} {T : Tw} (h : pm σ b L s T) {lo hi : Nat} (hlo : lo < 1000) (hh : hi < 1000) (hk1 : num b L s lo hi → ∀ τ, pm τ b L (nx b L s) T → gp σ τ → K (nI (vS b L s)) τ) (hk : ¬ num b L s lo hi → K (-1) σ) : Evi l (oM ad D cy) mX5_takesNumber [.ref 0, .int (nI lo), .int (nI hi)] σ K := by
  refine x_enter (ls := [some (.ref 0), some (.int (nI lo)), some (.int (nI hi)), none]) rfl ?_
  have hm := mk_4 b L s
  refine x_aload_n (i := 0) dX5_takesNumber_0 rfl rfl ?_
  refine x_getiE (i := 10) dX5_takesNumber_1 rfl rfl rfl (by decide) fl_X5_179 inX5 h.2.1.1 ?_
  refine x_iconstN (n := 2) dX5_takesNumber_4 ?_
  refine x_icneN (tgt := 29) (by omega) (by omega) dX5_takesNumber_5 rfl (fun h5 => ?_) (fun h5 => ?_)
  · skip
    refine x_iconst (v := -1) dX5_takesNumber_29 (by decide) ?_
    refine y_istore_n (i := 3) (ls2 := [_, _, _, _]) dX5_takesNumber_30 rfl (by decide) rfl rfl ?_
    refine x_iload_n (i := 3) dX5_takesNumber_31 rfl rfl ?_
    refine x_iflt (tgt := 39) dX5_takesNumber_32 rfl (fun h32 => ?_) (fun h32 => ?_)
    · skip
      refine x_iload_n (i := 3) dX5_takesNumber_39 rfl rfl ?_
      exact x_ireti dX5_takesNumber_40 rfl (hk (fun z => h5 (mk_num z hh)))
    · exact absurd h32 (by decide)
  · skip
    obtain ⟨k2, e2, v9⟩ := mk_2 h5
    have hv : σ.2 0 13 = lN (vS b L s) := (h.2.1.2.2.2.2 k2).trans (by rw [e2])
    refine x_aload_n (i := 0) dX5_takesNumber_8 rfl rfl ?_
    refine x_getlE (i := 13) dX5_takesNumber_9 rfl rfl rfl (by decide) fl_X5_175 inX5 hv ?_
    refine x_l2i dX5_takesNumber_12 ?_
    refine x_top (y := nI (vS b L s)) (lN_i _) ?_
    refine x_iload_n (i := 1) dX5_takesNumber_13 rfl rfl ?_
    refine x_iload_n (i := 2) dX5_takesNumber_14 rfl rfl ?_
    refine x_s3i dX5_takesNumber_15 okX5_in1 ml_X5_52 (Nat.le_of_ble_eq_true rfl) ⟨by decide, by decide⟩ (Nat.le_of_ble_eq_true rfl) (c_X5_in1 _ _ _ ?_)
    refine x_ifeqP (tgt := 29) dX5_takesNumber_18 rfl (fun h18 => ?_) (fun h18 => ?_)
    · skip
      refine x_iconst (v := -1) dX5_takesNumber_29 (by decide) ?_
      refine y_istore_n (i := 3) (ls2 := [_, _, _, _]) dX5_takesNumber_30 rfl (by decide) rfl rfl ?_
      refine x_iload_n (i := 3) dX5_takesNumber_31 rfl rfl ?_
      refine x_iflt (tgt := 39) dX5_takesNumber_32 rfl (fun h32 => ?_) (fun h32 => ?_)
      · skip
        refine x_iload_n (i := 3) dX5_takesNumber_39 rfl rfl ?_
        exact x_ireti dX5_takesNumber_40 rfl (hk (fun z => h18 (vR_nI z.2.1 z.2.2 (by omega))))
      · exact absurd h32 (by decide)
    · skip
      refine x_aload_n (i := 0) dX5_takesNumber_21 rfl rfl ?_
      refine x_getlE (i := 13) dX5_takesNumber_22 rfl rfl rfl (by decide) fl_X5_175 inX5 hv ?_
      refine x_l2i dX5_takesNumber_25 ?_
      refine x_top (y := nI (vS b L s)) (lN_i _) ?_
      refine x_goto (tgt := 30) dX5_takesNumber_26 rfl ?_
      refine y_istore_n (i := 3) (ls2 := [_, _, _, _]) dX5_takesNumber_30 rfl (by decide) rfl rfl ?_
      refine x_iload_n (i := 3) dX5_takesNumber_31 rfl rfl ?_
      refine x_iflt (tgt := 39) dX5_takesNumber_32 rfl (fun h32 => ?_) (fun h32 => ?_)
      · exact absurd h32 (nI_pos (vS_31 _ _ _))
      · skip
        refine x_aload_n (i := 0) dX5_takesNumber_35 rfl rfl ?_
        refine x_v0v dX5_takesNumber_36 okX5_nextToken ml_X5_200 rfl rfl (Nat.le_of_ble_eq_true rfl) ⟨by decide, by decide⟩ (Nat.le_of_ble_eq_true rfl) (c_nextM h (fun τ1 h1 hf1 => ?_))
        refine x_iload_n (i := 3) dX5_takesNumber_39 rfl rfl ?_
        exact x_ireti dX5_takesNumber_40 rfl (hk1 ⟨k2, Nat.not_lt.mp (fun z => h18.1 (nI_lt z (by omega))), Nat.not_lt.mp (fun z => h18.2 (nI_lt z (by omega)))⟩ τ1 h1 hf1)
def pTm (b : Nat → Int32) (L s : Nat) (T : Tw) (v : Int32) : Pr := if num b L s 0 2 then (if num b L (nx b L s) 0 19 then (true, nx b L (nx b L s), layT T (vS b L s * 20 + vS b L (nx b L s)) v) else (false, nx b L s, T)) else (false, s, T)
theorem pTh_m (b : Nat → Int32) (L s : Nat) (T : Tw) (v : Int32) : pTh b L s T v = pTm b L (nx b L s) T v := rfl
set_option maxHeartbeats 4000000 in
set_option maxRecDepth 20000 in
theorem c_X5_readsThing {σ : xH} {K : Int32 → xH → Prop} {b : Nat → Int32} {L s : Nat} {T : Tw} (h : pm σ b L s T) (v : Int32) (hk : ∀ τ, pm τ b L (pTm b L s T v).2.1 (pTm b L s T v).2.2 → gp σ τ → K (xb ((pTm b L s T v).1 = true)) τ) : Evi l (oM ad D cy) mX5_readsThing [.ref 0, .int v] σ K := by
  refine x_enter (ls := [some (.ref 0), some (.int v), none, none]) rfl ?_
  refine x_aload_n (i := 0) dX5_readsThing_0 rfl rfl ?_
  refine x_iconstN (n := 0) dX5_readsThing_1 ?_
  refine x_iconstN (n := 2) dX5_readsThing_2 ?_
  refine x_v2i dX5_readsThing_3 okX5_takesNumber ml_X5_207 rfl rfl (Nat.le_of_ble_eq_true rfl) ⟨by decide, by decide⟩ (Nat.le_of_ble_eq_true rfl) (c_X5_takesNumber h (by decide) (by decide) (fun n1 τ1 h1 hf1 => ?_) (fun n1 => ?_))
  · skip
    refine y_istore_n (i := 2) (ls2 := [_, _, _, _]) dX5_readsThing_6 rfl (by decide) rfl rfl ?_
    refine x_iload_n (i := 2) dX5_readsThing_7 rfl rfl ?_
    refine x_ifge (tgt := 15) dX5_readsThing_8 rfl (fun h8 => ?_) (fun h8 => ?_)
    · skip
      refine x_aload_n (i := 0) dX5_readsThing_15 rfl rfl ?_
      refine x_iconstN (n := 0) dX5_readsThing_16 ?_
      refine x_bipush (v := nI 19) dX5_readsThing_17 (by decide) ?_
      refine x_v2i dX5_readsThing_19 okX5_takesNumber ml_X5_207 rfl rfl (Nat.le_of_ble_eq_true rfl) ⟨by decide, by decide⟩ (Nat.le_of_ble_eq_true rfl) (c_X5_takesNumber h1 (by decide) (by decide) (fun n2 τ2 h2 hf2 => ?_) (fun n2 => ?_))
      · skip
        refine y_istore_n (i := 3) (ls2 := [_, _, _, _]) dX5_readsThing_22 rfl (by decide) rfl rfl ?_
        refine x_iload_n (i := 3) dX5_readsThing_23 rfl rfl ?_
        refine x_iflt (tgt := 34) dX5_readsThing_24 rfl (fun h24 => ?_) (fun h24 => ?_)
        · exact absurd h24 (nI_pos (vS_31 _ _ _))
        · skip
          refine x_aload_n (i := 0) dX5_readsThing_27 rfl rfl ?_
          refine x_iload_n (i := 2) dX5_readsThing_28 rfl rfl ?_
          refine x_iload_n (i := 3) dX5_readsThing_29 rfl rfl ?_
          refine x_iload_n (i := 1) dX5_readsThing_30 rfl rfl ?_
          refine x_v3v dX5_readsThing_31 okX5_lies ml_X5_121 rfl rfl (Nat.le_of_ble_eq_true rfl) ⟨by decide, by decide⟩ (Nat.le_of_ble_eq_true rfl) (c_X5_lies h2.2.2.1 (show vS b L s < 3 by have := n1.2.2; omega) (show vS b L (nx b L s) < 20 by have := n2.2.2; omega) _ (fun τ3 hw3 hf3 => ?_))
          refine x_iload_n (i := 3) dX5_readsThing_34 rfl rfl ?_
          refine x_iflt (tgt := 42) dX5_readsThing_35 rfl (fun h35 => ?_) (fun h35 => ?_)
          · exact absurd h35 (nI_pos (vS_31 _ _ _))
          · skip
            refine x_iconstN (n := 1) dX5_readsThing_38 ?_
            refine x_goto (tgt := 43) dX5_readsThing_39 rfl ?_
            exact x_iretz dX5_readsThing_43 rfl (by decide) (by have e : pTm b L s T v = _ := (if_pos n1).trans (if_pos n2); rw [e] at hk; exact hk τ3 (pm_fg h2 hf3 hw3) (gp_tr hf1 (gp_tr hf2 (fg_gp hf3))))
      · skip
        refine y_istore_n (i := 3) (ls2 := [_, _, _, _]) dX5_readsThing_22 rfl (by decide) rfl rfl ?_
        refine x_iload_n (i := 3) dX5_readsThing_23 rfl rfl ?_
        refine x_iflt (tgt := 34) dX5_readsThing_24 rfl (fun h24 => ?_) (fun h24 => ?_)
        · skip
          refine x_iload_n (i := 3) dX5_readsThing_34 rfl rfl ?_
          refine x_iflt (tgt := 42) dX5_readsThing_35 rfl (fun h35 => ?_) (fun h35 => ?_)
          · skip
            refine x_iconstN (n := 0) dX5_readsThing_42 ?_
            exact x_iretz dX5_readsThing_43 rfl (by decide) (by have e : pTm b L s T v = (false, nx b L s, T) := (if_pos n1).trans (if_neg n2); rw [e] at hk; exact hk τ1 h1 hf1)
          · exact absurd h35 (by decide)
        · exact absurd h24 (by decide)
    · exact absurd (nI_pos' (vS_31 _ _ _)) h8
  · skip
    refine y_istore_n (i := 2) (ls2 := [_, _, _, _]) dX5_readsThing_6 rfl (by decide) rfl rfl ?_
    refine x_iload_n (i := 2) dX5_readsThing_7 rfl rfl ?_
    refine x_ifge (tgt := 15) dX5_readsThing_8 rfl (fun h8 => ?_) (fun h8 => ?_)
    · exact absurd h8 (by decide)
    · skip
      refine x_iconst (v := -1) dX5_readsThing_11 (by decide) ?_
      refine x_goto (tgt := 22) dX5_readsThing_12 rfl ?_
      refine y_istore_n (i := 3) (ls2 := [_, _, _, _]) dX5_readsThing_22 rfl (by decide) rfl rfl ?_
      refine x_iload_n (i := 3) dX5_readsThing_23 rfl rfl ?_
      refine x_iflt (tgt := 34) dX5_readsThing_24 rfl (fun h24 => ?_) (fun h24 => ?_)
      · skip
        refine x_iload_n (i := 3) dX5_readsThing_34 rfl rfl ?_
        refine x_iflt (tgt := 42) dX5_readsThing_35 rfl (fun h35 => ?_) (fun h35 => ?_)
        · skip
          refine x_iconstN (n := 0) dX5_readsThing_42 ?_
          exact x_iretz dX5_readsThing_43 rfl (by decide) (by have e : pTm b L s T v = (false, s, T) := if_neg n1; rw [e] at hk; exact hk σ h (gp_rf σ))
        · exact absurd h35 (by decide)
      · exact absurd h24 (by decide)
theorem isW_len {b : Nat → Int32} {L s u : Nat} (h : isW b L s u = true) : eS b L s - s = xlen.getD u 0 := by
  unfold isW at h
  rw [Bool.and_eq_true, Bool.and_eq_true, decide_eq_true_eq, decide_eq_true_eq] at h
  exact h.2.1
theorem mN0 {b : Nat → Int32} {L s : Nat} : mN b L s = nI 0 ↔ isW b L s 6 = true := by
  unfold mN
  constructor
  · intro h
    repeat' split at h
    · assumption
    · exact absurd h (by decide)
    · exact absurd h (by decide)
  · intro h
    rw [if_pos h]
theorem mN1 {b : Nat → Int32} {L s : Nat} : mN b L s = nI 1 ↔ isW b L s 7 = true := by
  unfold mN
  constructor
  · intro h
    repeat' split at h
    · exact absurd h (by decide)
    · assumption
    · exact absurd h (by decide)
  · intro h
    rw [if_neg (fun z => by have h1 := isW_len z; have h2 := isW_len h; rw [h1] at h2; exact absurd h2 (by decide)), if_pos h]
set_option maxHeartbeats 4000000 in
set_option maxRecDepth 20000 in
theorem l_rdi {σ : xH} {K : Int32 → xH → Prop} {b : Nat → Int32} {L s d : Nat} {T : Tw} (h : pm σ b L s T) (hd : d < tN T) (x : Int32) (hk : ∀ τ, pm τ b L (pDi b L s d T).2.1 (pDi b L s d T).2.2 → gp σ τ → K (xb ((pDi b L s d T).1 = true)) τ) : Ex l (oM ad D cy) mX5_readsDriver 31 [some (.ref 0), some (.int x), some (.int (nI d)), some (.int (nI 1)), none] [] σ (xQi K) := by
  have h8 := ms_8 h.2.2.1
  refine x_iload_n (i := 3) dX5_readsDriver_31 rfl rfl ?_
  refine x_iconstN (n := 2) dX5_readsDriver_32 ?_
  refine x_icgeN (tgt := 101) (by omega) (by omega) dX5_readsDriver_33 rfl (fun h33 => ?_) (fun h33 => ?_)
  · exact absurd h33 (by decide)
  · skip
    refine x_aload_n (i := 0) dX5_readsDriver_36 rfl rfl ?_
    refine x_aload_n (i := 0) dX5_readsDriver_37 rfl rfl ?_
    refine x_getr (i := 15) dX5_readsDriver_38 rfl rfl rfl (by decide) fl_X5_32 inX5 ?_
    refine x_v1i dX5_readsDriver_41 okX5_wordOf ml_X5_203 rfl rfl (Nat.le_of_ble_eq_true rfl) ⟨by decide, by decide⟩ (Nat.le_of_ble_eq_true rfl) (c_w8 h.2.1 h.2.2.2.2.2.1 ?_)
    refine x_iload_n (i := 3) dX5_readsDriver_44 rfl rfl ?_
    refine x_icne (tgt := 95) dX5_readsDriver_45 rfl (fun h45 => ?_) (fun h45 => ?_)
    · skip
      refine y_iincN (i := 3) (ls2 := [_, _, _, _, _]) dX5_readsDriver_95 rfl (by decide) rfl rfl ?_
      refine x_goto (tgt := 31) dX5_readsDriver_98 rfl ?_
      refine x_iload_n (i := 3) dX5_readsDriver_31 rfl rfl ?_
      refine x_iconstN (n := 2) dX5_readsDriver_32 ?_
      refine x_icgeN (tgt := 101) (by omega) (by omega) dX5_readsDriver_33 rfl (fun h33_1 => ?_) (fun h33_1 => ?_)
      · skip
        refine x_iconstN (n := 1) dX5_readsDriver_101 ?_
        exact x_iretz dX5_readsDriver_102 rfl (by decide) (by have e : pDi b L s d T = (true, s, T) := if_neg (fun z => h45 (mN1.mpr z)); rw [e] at hk; exact hk σ h (gp_rf σ))
      · exact absurd h33_1 (by decide)
    · skip
      refine x_aload_n (i := 0) dX5_readsDriver_48 rfl rfl ?_
      refine x_v0v dX5_readsDriver_49 okX5_nextToken ml_X5_200 rfl rfl (Nat.le_of_ble_eq_true rfl) ⟨by decide, by decide⟩ (Nat.le_of_ble_eq_true rfl) (c_nextM h (fun τ1 h1 hf1 => ?_))
      refine x_aload_n (i := 0) dX5_readsDriver_52 rfl rfl ?_
      refine x_iload_n (i := 3) dX5_readsDriver_53 rfl rfl ?_
      refine x_ifne (tgt := 62) dX5_readsDriver_54 rfl (fun h54 => ?_) (fun h54 => ?_)
      · skip
        refine x_iconstN (n := 0) dX5_readsDriver_62 ?_
        refine x_iload_n (i := 3) dX5_readsDriver_63 rfl rfl ?_
        refine x_ifne (tgt := 72) dX5_readsDriver_64 rfl (fun h64 => ?_) (fun h64 => ?_)
        · skip
          refine x_iconstN (n := 2) dX5_readsDriver_72 ?_
          refine x_v2i dX5_readsDriver_73 okX5_takesNumber ml_X5_207 rfl rfl (Nat.le_of_ble_eq_true rfl) ⟨by decide, by decide⟩ (Nat.le_of_ble_eq_true rfl) (c_X5_takesNumber h1 (by decide) (by decide) (fun n2 τ2 h2 hf2 => ?_) (fun n2 => ?_))
          · skip
            refine y_istore (i := 4) (ls2 := [_, _, _, _, _]) dX5_readsDriver_76 (by decide) rfl rfl ?_
            refine x_iload (i := 4) dX5_readsDriver_78 rfl ?_
            refine x_ifge (tgt := 85) dX5_readsDriver_80 rfl (fun h80 => ?_) (fun h80 => ?_)
            · skip
              refine x_aload_n (i := 0) dX5_readsDriver_85 rfl rfl ?_
              refine x_iload_n (i := 2) dX5_readsDriver_86 rfl rfl ?_
              refine x_iconstN (n := 1) dX5_readsDriver_87 ?_
              refine x_iload_n (i := 3) dX5_readsDriver_88 rfl rfl ?_
              refine x_iaddN dX5_readsDriver_89 ?_
              refine x_iload (i := 4) dX5_readsDriver_90 rfl ?_
              refine x_v3v dX5_readsDriver_92 okX5_puts ml_X5_105 rfl rfl (Nat.le_of_ble_eq_true rfl) ⟨by decide, by decide⟩ (Nat.le_of_ble_eq_true rfl) (c_X5_puts (by omega) (by decide) _ ?_)
              refine y_iincN (i := 3) (ls2 := [_, _, _, _, _]) dX5_readsDriver_95 rfl (by decide) rfl rfl ?_
              refine x_goto (tgt := 31) dX5_readsDriver_98 rfl ?_
              refine x_iload_n (i := 3) dX5_readsDriver_31 rfl rfl ?_
              refine x_iconstN (n := 2) dX5_readsDriver_32 ?_
              refine x_icgeN (tgt := 101) (by omega) (by omega) dX5_readsDriver_33 rfl (fun h33_1 => ?_) (fun h33_1 => ?_)
              · skip
                refine x_iconstN (n := 1) dX5_readsDriver_101 ?_
                exact x_iretz dX5_readsDriver_102 rfl (by decide) (by have e : pDi b L s d T = _ := (if_pos (mN1.mp h45)).trans (if_pos n2); rw [e] at hk; exact hk _ (pm_fg h2 fg_1 (ms_setGo h2.2.2.1 d (show vS b L (nx b L s) < 3 by have := n2.2.2; omega))) (gp_tr hf1 (gp_tr hf2 (fg_gp fg_1))))
              · exact absurd h33_1 (by decide)
            · exact absurd (nI_pos' (vS_31 _ _ _)) h80
          · skip
            refine y_istore (i := 4) (ls2 := [_, _, _, _, _]) dX5_readsDriver_76 (by decide) rfl rfl ?_
            refine x_iload (i := 4) dX5_readsDriver_78 rfl ?_
            refine x_ifge (tgt := 85) dX5_readsDriver_80 rfl (fun h80 => ?_) (fun h80 => ?_)
            · exact absurd h80 (by decide)
            · skip
              refine x_iconstN (n := 0) dX5_readsDriver_83 ?_
              exact x_iretz dX5_readsDriver_84 rfl (by decide) (by have e : pDi b L s d T = (false, nx b L s, T) := (if_pos (mN1.mp h45)).trans (if_neg n2); rw [e] at hk; exact hk τ1 h1 hf1)
        · exact absurd h64 (by decide)
      · exact absurd h54 (by decide)
set_option maxHeartbeats 4000000 in
set_option maxRecDepth 20000 in
theorem l_rdw {σ : xH} {K : Int32 → xH → Prop} {b : Nat → Int32} {L s d : Nat} {T : Tw} (h : pm σ b L s T) (hd : d < tN T) (x : Int32) (hk : ∀ τ, pm τ b L (pDw b L s d T).2.1 (pDw b L s d T).2.2 → gp σ τ → K (xb ((pDw b L s d T).1 = true)) τ) : Ex l (oM ad D cy) mX5_readsDriver 31 [some (.ref 0), some (.int x), some (.int (nI d)), some (.int (nI 0)), none] [] σ (xQi K) := by
  have h8 := ms_8 h.2.2.1
  refine x_iload_n (i := 3) dX5_readsDriver_31 rfl rfl ?_
  refine x_iconstN (n := 2) dX5_readsDriver_32 ?_
  refine x_icgeN (tgt := 101) (by omega) (by omega) dX5_readsDriver_33 rfl (fun h33 => ?_) (fun h33 => ?_)
  · exact absurd h33 (by decide)
  · skip
    refine x_aload_n (i := 0) dX5_readsDriver_36 rfl rfl ?_
    refine x_aload_n (i := 0) dX5_readsDriver_37 rfl rfl ?_
    refine x_getr (i := 15) dX5_readsDriver_38 rfl rfl rfl (by decide) fl_X5_32 inX5 ?_
    refine x_v1i dX5_readsDriver_41 okX5_wordOf ml_X5_203 rfl rfl (Nat.le_of_ble_eq_true rfl) ⟨by decide, by decide⟩ (Nat.le_of_ble_eq_true rfl) (c_w8 h.2.1 h.2.2.2.2.2.1 ?_)
    refine x_iload_n (i := 3) dX5_readsDriver_44 rfl rfl ?_
    refine x_icne (tgt := 95) dX5_readsDriver_45 rfl (fun h45 => ?_) (fun h45 => ?_)
    · skip
      refine y_iincN (i := 3) (ls2 := [_, _, _, _, _]) dX5_readsDriver_95 rfl (by decide) rfl rfl ?_
      refine x_goto (tgt := 31) dX5_readsDriver_98 rfl ?_
      have e : pDw b L s d T = pDi b L s d T := if_neg (fun z => h45 (mN0.mpr z))
      rw [e] at hk
      exact l_rdi h hd x hk
    · skip
      refine x_aload_n (i := 0) dX5_readsDriver_48 rfl rfl ?_
      refine x_v0v dX5_readsDriver_49 okX5_nextToken ml_X5_200 rfl rfl (Nat.le_of_ble_eq_true rfl) ⟨by decide, by decide⟩ (Nat.le_of_ble_eq_true rfl) (c_nextM h (fun τ1 h1 hf1 => ?_))
      refine x_aload_n (i := 0) dX5_readsDriver_52 rfl rfl ?_
      refine x_iload_n (i := 3) dX5_readsDriver_53 rfl rfl ?_
      refine x_ifne (tgt := 62) dX5_readsDriver_54 rfl (fun h54 => ?_) (fun h54 => ?_)
      · exact absurd h54 (by decide)
      · skip
        refine x_bipush (v := nI 10) dX5_readsDriver_57 (by decide) ?_
        refine x_goto (tgt := 63) dX5_readsDriver_59 rfl ?_
        refine x_iload_n (i := 3) dX5_readsDriver_63 rfl rfl ?_
        refine x_ifne (tgt := 72) dX5_readsDriver_64 rfl (fun h64 => ?_) (fun h64 => ?_)
        · exact absurd h64 (by decide)
        · skip
          refine x_bipush (v := nI 80) dX5_readsDriver_67 (by decide) ?_
          refine x_goto (tgt := 73) dX5_readsDriver_69 rfl ?_
          refine x_v2i dX5_readsDriver_73 okX5_takesNumber ml_X5_207 rfl rfl (Nat.le_of_ble_eq_true rfl) ⟨by decide, by decide⟩ (Nat.le_of_ble_eq_true rfl) (c_X5_takesNumber h1 (by decide) (by decide) (fun n2 τ2 h2 hf2 => ?_) (fun n2 => ?_))
          · skip
            refine y_istore (i := 4) (ls2 := [_, _, _, _, _]) dX5_readsDriver_76 (by decide) rfl rfl ?_
            refine x_iload (i := 4) dX5_readsDriver_78 rfl ?_
            refine x_ifge (tgt := 85) dX5_readsDriver_80 rfl (fun h80 => ?_) (fun h80 => ?_)
            · skip
              refine x_aload_n (i := 0) dX5_readsDriver_85 rfl rfl ?_
              refine x_iload_n (i := 2) dX5_readsDriver_86 rfl rfl ?_
              refine x_iconstN (n := 1) dX5_readsDriver_87 ?_
              refine x_iload_n (i := 3) dX5_readsDriver_88 rfl rfl ?_
              refine x_iaddN dX5_readsDriver_89 ?_
              refine x_iload (i := 4) dX5_readsDriver_90 rfl ?_
              refine x_v3v dX5_readsDriver_92 okX5_puts ml_X5_105 rfl rfl (Nat.le_of_ble_eq_true rfl) ⟨by decide, by decide⟩ (Nat.le_of_ble_eq_true rfl) (c_X5_puts (by omega) (by decide) _ ?_)
              refine y_iincN (i := 3) (ls2 := [_, _, _, _, _]) dX5_readsDriver_95 rfl (by decide) rfl rfl ?_
              refine x_goto (tgt := 31) dX5_readsDriver_98 rfl ?_
              have e : pDw b L s d T = _ := (if_pos (mN0.mp h45)).trans (if_pos n2)
              rw [e] at hk
              refine x_mask [true, true, true, true, false] ?_
              exact l_rdi (pm_fg h2 fg_1 (ms_setWs h2.2.2.1 d (nI (vS b L (nx b L s))))) hd x (fun τ a f => hk τ a (gp_tr hf1 (gp_tr hf2 (gp_tr (fg_gp fg_1) f))))
            · exact absurd (nI_pos' (vS_31 _ _ _)) h80
          · skip
            refine y_istore (i := 4) (ls2 := [_, _, _, _, _]) dX5_readsDriver_76 (by decide) rfl rfl ?_
            refine x_iload (i := 4) dX5_readsDriver_78 rfl ?_
            refine x_ifge (tgt := 85) dX5_readsDriver_80 rfl (fun h80 => ?_) (fun h80 => ?_)
            · exact absurd h80 (by decide)
            · skip
              refine x_iconstN (n := 0) dX5_readsDriver_83 ?_
              exact x_iretz dX5_readsDriver_84 rfl (by decide) (by have e : pDw b L s d T = (false, nx b L s, T) := (if_pos (mN0.mp h45)).trans (if_neg n2); rw [e] at hk; exact hk τ1 h1 hf1)
set_option maxHeartbeats 4000000 in
set_option maxRecDepth 20000 in
theorem c_X5_readsDriver {σ : xH} {K : Int32 → xH → Prop} {b : Nat → Int32} {L s : Nat} {T : Tw} (h : pm σ b L s T) (x : Int32) (hk : ∀ τ, pm τ b L (pDr b L s T x).2.1 (pDr b L s T x).2.2 → gp σ τ → K (xb ((pDr b L s T x).1 = true)) τ) : Evi l (oM ad D cy) mX5_readsDriver [.ref 0, .int x] σ K := by
  refine x_enter (ls := [some (.ref 0), some (.int x), none, none, none]) rfl ?_
  have h8l := ms_8 h.2.2.1
  refine x_aload_n (i := 0) dX5_readsDriver_0 rfl rfl ?_
  refine x_getr (i := 0) dX5_readsDriver_1 rfl rfl rfl (by decide) fl_X5_9 inX5 ?_
  refine x_iconstN (n := 2) dX5_readsDriver_4 ?_
  refine x_ialdE dX5_readsDriver_5 rfl (by omega) (by decide) (ms_n h.2.2.1) ?_
  refine x_bipush (v := nI 8) dX5_readsDriver_6 (by decide) ?_
  refine x_icneN (tgt := 13) (by omega) (by omega) dX5_readsDriver_8 rfl (fun h8 => ?_) (fun h8 => ?_)
  · skip
    refine x_aload_n (i := 0) dX5_readsDriver_13 rfl rfl ?_
    refine x_getr (i := 0) dX5_readsDriver_14 rfl rfl rfl (by decide) fl_X5_9 inX5 ?_
    refine x_iconstN (n := 2) dX5_readsDriver_17 ?_
    refine x_ialdE dX5_readsDriver_18 rfl (by omega) (by decide) (ms_n h.2.2.1) ?_
    refine y_istore_n (i := 2) (ls2 := [_, _, _, _, _]) dX5_readsDriver_19 rfl (by decide) rfl rfl ?_
    refine x_aload_n (i := 0) dX5_readsDriver_20 rfl rfl ?_
    refine x_iload_n (i := 1) dX5_readsDriver_21 rfl rfl ?_
    refine x_v1v dX5_readsDriver_22 okX5_addsDriver ml_X5_137 rfl rfl (Nat.le_of_ble_eq_true rfl) ⟨by decide, by decide⟩ (Nat.le_of_ble_eq_true rfl) (c_X5_addsDriver h.2.2.1 (by omega) _ (fun τ1 hw1 hf1 => ?_))
    refine x_aload_n (i := 0) dX5_readsDriver_25 rfl rfl ?_
    refine x_v0v dX5_readsDriver_26 okX5_nextToken ml_X5_200 rfl rfl (Nat.le_of_ble_eq_true rfl) ⟨by decide, by decide⟩ (Nat.le_of_ble_eq_true rfl) (c_nextM (pm_fg h hf1 hw1) (fun τ2 h2 hf2 => ?_))
    refine x_iconstN (n := 0) dX5_readsDriver_29 ?_
    refine y_istore_n (i := 3) (ls2 := [_, _, _, _, _]) dX5_readsDriver_30 rfl (by decide) rfl rfl ?_
    have e : pDr b L s T x = _ := if_pos (show tN T < 8 by omega)
    rw [e] at hk
    exact l_rdw h2 (Nat.lt_succ_self _) x (fun τ a f => hk τ a (gp_tr (fg_gp hf1) (gp_tr hf2 f)))
  · skip
    refine x_iconstN (n := 0) dX5_readsDriver_11 ?_
    exact x_iretz dX5_readsDriver_12 rfl (by decide) (by have e : pDr b L s T x = (false, s, T) := if_neg (by omega); rw [e] at hk; exact hk σ h (gp_rf σ))
end
