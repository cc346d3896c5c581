section
variable {l : Launch} {ad : Nat → Nat} {D : va_G} {cy : Nat → ClassId}
theorem shr_and (x : Int32) {k : Nat} (hk : k < 4) : (x >>> (nI (8 * k) &&& 31)) &&& nI 255 = fByte x k := by
  have e255 : ∀ i, i < 32 → 8 ≤ i → (nI 255).toBitVec.getLsbD i = false := by decide +kernel
  have sl : ∀ k, k < 4 → ((nI (8 * k) &&& 31).toBitVec.smod 32).toNat = 8 * k := by decide +kernel
  have su : ∀ k, k < 4 → (((nI (8 * k)).toUInt32 &&& Int32.toUInt32 31).toBitVec % 32).toNat = 8 * k := by decide +kernel
  unfold fByte
  apply Int32.toBitVec_inj.mp
  apply BitVec.eq_of_getLsbD_eq
  intro i hi
  rw [Int32.toBitVec_and, Int32.toBitVec_and, BitVec.getLsbD_and, BitVec.getLsbD_and]
  by_cases h : i < 8
  · congr 1
    rw [Int32.toBitVec_shiftRight]
    show (x.toBitVec.sshiftRight ((nI (8 * k) &&& 31).toBitVec.smod 32).toNat).getLsbD i = (x.toUInt32 >>> ((nI (8 * k)).toUInt32 &&& Int32.toUInt32 31)).toBitVec.getLsbD i
    rw [sl k hk, BitVec.getLsbD_sshiftRight, UInt32.toBitVec_shiftRight]
    show _ = (x.toUInt32.toBitVec >>> (((nI (8 * k)).toUInt32 &&& Int32.toUInt32 31).toBitVec % 32).toNat).getLsbD i
    rw [su k hk, BitVec.getLsbD_ushiftRight]
    show _ = x.toBitVec.getLsbD (8 * k + i)
    have h1 : 8 * k + i < 32 := by omega
    have h2 : ¬ 32 ≤ i := by omega
    simp [h1, h2]
  · rw [e255 i hi (by omega), Bool.and_false, Bool.and_false]
set_option maxHeartbeats 4000000 in
set_option maxRecDepth 20000 in
theorem l_X5_feed {σ0 : xH} {K : Int32 → xH → Prop} {S : St} {m : Nat} (hm4 : m ≤ 4) (hm : gL S + m ≤ 120) (x : Int32) (y : Int32) (hk : ∀ τ, τ.2 = σ0.2 → (∀ q, q ≠ 0 → q ≠ 6 → τ.1 q = σ0.1 q) → (∀ i, i ≠ 9 → τ.1 0 i = σ0.1 0 i) → τ.1 0 9 = nI (gL S + m) → (∀ i, i < gL S + m → τ.1 6 i = tpB S x m 0 i) → K (nI (gL S + m)) τ) : ∀ (c : Nat) (σ : xH), c ≤ m → σ.2 = σ0.2 → (∀ q, q ≠ 0 → q ≠ 6 → σ.1 q = σ0.1 q) → (∀ i, i ≠ 9 → σ.1 0 i = σ0.1 0 i) → σ.1 0 9 = nI (gL S + m - c) → (∀ i, i < gL S + m - c → σ.1 6 i = tpB S x m c i) → Ex l (oM ad D cy) mX5_feed 36 [some (.ref 0), some (.int x), some (.int y), some (.int (nI c - nI 1))] [] σ (xQi K) := by
  intro c
  induction c with
  | zero =>
    intro σ hc h1 h2 h0 h3 h4
    refine x_iload_n (i := 3) dX5_feed_36 rfl rfl ?_
    refine x_iflt (tgt := 75) dX5_feed_37 rfl (fun h37 => ?_) (fun h37 => ?_)
    · skip
      refine x_aload_n (i := 0) dX5_feed_75 rfl rfl ?_
      refine x_getiE (i := 9) dX5_feed_76 rfl rfl rfl (by decide) fl_X5_166 inX5 h3 ?_
      exact x_ireti dX5_feed_79 rfl (hk σ h1 h2 h0 h3 h4)
    · exact absurd (show nI 0 - nI 1 < 0 by decide) h37
  | succ c ih =>
    intro σ hc h1 h2 h0 h3 h4
    rw [show nI (c + 1) - nI 1 = nI c from (pk_sub (by omega)).trans (by rw [Nat.add_sub_cancel])]
    refine x_iload_n (i := 3) dX5_feed_36 rfl rfl ?_
    refine x_iflt (tgt := 75) dX5_feed_37 rfl (fun h37 => ?_) (fun h37 => ?_)
    · exact absurd h37 (nI_pos (by omega))
    · skip
      refine x_aload_n (i := 0) dX5_feed_40 rfl rfl ?_
      refine x_getr (i := 8) dX5_feed_41 rfl rfl rfl (by decide) fl_X5_25 inX5 ?_
      refine x_aload_n (i := 0) dX5_feed_44 rfl rfl ?_
      refine x_getiE (i := 9) dX5_feed_45 rfl rfl rfl (by decide) fl_X5_166 inX5 h3 ?_
      refine x_iload_n (i := 1) dX5_feed_48 rfl rfl ?_
      refine x_bipush (v := nI 8) dX5_feed_49 (by decide) ?_
      refine x_iload_n (i := 3) dX5_feed_51 rfl rfl ?_
      refine x_imulN dX5_feed_52 ?_
      refine x_ishr dX5_feed_53 ?_
      refine x_sipush (v := nI 255) dX5_feed_54 (by decide) ?_
      refine x_iand dX5_feed_57 ?_
      refine x_top (shr_and x (by omega)) ?_
      refine x_iastN dX5_feed_58 rfl (by omega) (by decide) ?_
      refine x_aload_n (i := 0) dX5_feed_59 rfl rfl ?_
      refine x_dup dX5_feed_60 rfl ?_
      refine x_getiE (i := 9) dX5_feed_61 rfl rfl rfl (by decide) fl_X5_166 inX5 (show _ = nI (gL S + m - (c + 1)) by simp (disch := omega) only [xui_o]; exact h3) ?_
      refine x_iconstN (n := 1) dX5_feed_64 ?_
      refine x_iaddN dX5_feed_65 ?_
      refine x_puti (i := 9) (ty := .int) dX5_feed_66 rfl rfl rfl (by decide) fl_X5_166 inX5 tyX5_ok nmX5 rfl rfl rfl rfl ?_
      refine y_iinc (i := 3) (ls2 := [_, _, _, _]) dX5_feed_69 rfl rfl (by decide) rfl rfl ?_
      refine x_goto (tgt := 36) dX5_feed_72 rfl ?_
      refine x_ls (ls' := [some (.ref 0), some (.int x), some (.int y), some (.int (nI c - nI 1))]) (by rw [Int32.sub_eq_add_neg, show -nI 1 = Int32.ofInt (-1) by decide]) (ih _ (by omega) h1 (fun q g1 g2 => ?_) (fun q g => ?_) ?_ (fun i hi => ?_))
      · simp (disch := omega) only [xui_o]; exact h2 q g1 g2
      · rw [xp_o g, xui_o _ _ (by omega)]; exact h0 q g
      · rw [xp_s]; congr 1; omega
      · simp (disch := omega) only [xui_o, xui_s, upd]
        by_cases e : i = gL S + m - (c + 1)
        · rw [if_pos e]; unfold tpB; rw [if_pos ⟨by omega, hi⟩, e, show gL S + m - 1 - (gL S + m - (c + 1)) = c by omega]
        · rw [if_neg e, h4 i (by omega)]; unfold tpB
          by_cases e2 : gL S ≤ i
          · rw [if_pos ⟨e2, by omega⟩, if_pos ⟨e2, hi⟩]
          · rw [if_neg (fun z => e2 z.1), if_neg (fun z => e2 z.1)]
set_option maxHeartbeats 4000000 in
set_option maxRecDepth 20000 in
theorem c_X5_feed {σ : xH} {K : Int32 → xH → Prop} {S : St} (hS : mS σ S) (hO : tOk (gT S)) (x m : Int32) (hk : ∀ τ, mS τ (oFeed S x m).2 → K (oFeed S x m).1 τ) : Evi l (oM ad D cy) mX5_feed [.ref 0, .int x, .int m] σ K := by
  have hs := hS.1
  have h8 := ms_8 hs
  refine x_enter (ls := [some (.ref 0), some (.int x), some (.int m), none]) rfl ?_
  by_cases hc : vR (nI 1) (nI 4) m
  · unfold oFeed at hk
    rw [if_pos hc] at hk
    have hL := hS.2.2.2.2.2.1
    obtain ⟨m, hm1, hm, rfl⟩ := vR_of hc (by decide) (by decide)
    simp only [cn, nI_clamp (show m < 2 ^ 31 by omega)] at hk
    refine x_iload_n (i := 2) dX5_feed_0 rfl rfl ?_
    refine x_iconstN (n := 1) dX5_feed_1 ?_
    refine x_iconstN (n := 4) dX5_feed_2 ?_
    refine x_s3i dX5_feed_3 okX5_in1 ml_X5_52 (Nat.le_of_ble_eq_true rfl) ⟨by decide, by decide⟩ (Nat.le_of_ble_eq_true rfl) (c_X5_in1 _ _ _ ?_)
    refine x_ifneP (tgt := 15) dX5_feed_6 rfl (fun h6 => ?_) (fun h6 => ?_)
    · skip
      refine x_aload_n (i := 0) dX5_feed_15 rfl rfl ?_
      refine x_getiE (i := 9) dX5_feed_16 rfl rfl rfl (by decide) fl_X5_166 inX5 hS.2.2.2.1 ?_
      refine x_iload_n (i := 2) dX5_feed_19 rfl rfl ?_
      refine x_iaddN dX5_feed_20 ?_
      refine x_bipush (v := nI 120) dX5_feed_21 (by decide) ?_
      refine x_icleN (tgt := 32) (by omega) (by omega) dX5_feed_23 rfl (fun h23 => ?_) (fun h23 => ?_)
      · skip
        refine x_iload_n (i := 2) dX5_feed_32 rfl rfl ?_
        refine x_iconstN (n := 1) dX5_feed_33 ?_
        refine x_isub dX5_feed_34 ?_
        refine y_istore_n (i := 3) (ls2 := [_, _, _, _]) dX5_feed_35 rfl (by decide) rfl rfl ?_
        rw [if_pos (by omega)] at hk
        exact l_X5_feed hm (by omega) x _ (fun τ g1 g2 g0 g3 g4 => hk τ (mS_tape hS g1 g2 g0 g3 g4 (by omega))) m σ (Nat.le_refl _) rfl (fun _ _ _ => rfl) (fun _ _ => rfl) (by rw [Nat.add_sub_cancel]; exact hS.2.2.2.1) (fun i hi => by unfold tpB; rw [if_neg (fun z => by omega)]; exact hS.2.2.2.2.1 i (by omega))
      · skip
        refine x_aload_n (i := 0) dX5_feed_26 rfl rfl ?_
        refine x_iconstN (n := 1) dX5_feed_27 ?_
        refine x_v1i dX5_feed_28 okX5_no ml_X5_118 rfl rfl (Nat.le_of_ble_eq_true rfl) ⟨by decide, by decide⟩ (Nat.le_of_ble_eq_true rfl) (c_X5_no hS 1 (by decide) (fun τ hτ => ?_))
        exact x_ireti dX5_feed_31 rfl (by rw [if_neg (by omega)] at hk; exact hk τ hτ)
    · exact absurd hc h6
  · unfold oFeed at hk
    rw [if_neg hc] at hk
    refine x_iload_n (i := 2) dX5_feed_0 rfl rfl ?_
    refine x_iconstN (n := 1) dX5_feed_1 ?_
    refine x_iconstN (n := 4) dX5_feed_2 ?_
    refine x_s3i dX5_feed_3 okX5_in1 ml_X5_52 (Nat.le_of_ble_eq_true rfl) ⟨by decide, by decide⟩ (Nat.le_of_ble_eq_true rfl) (c_X5_in1 _ _ _ ?_)
    refine x_ifneP (tgt := 15) dX5_feed_6 rfl (fun h6 => ?_) (fun h6 => ?_)
    · exact absurd h6 hc
    · skip
      refine x_aload_n (i := 0) dX5_feed_9 rfl rfl ?_
      refine x_iconstN (n := 0) dX5_feed_10 ?_
      refine x_v1i dX5_feed_11 okX5_no ml_X5_118 rfl rfl (Nat.le_of_ble_eq_true rfl) ⟨by decide, by decide⟩ (Nat.le_of_ble_eq_true rfl) (c_X5_no hS 0 (by decide) (fun τ hτ => ?_))
      exact x_ireti dX5_feed_14 rfl (hk τ hτ)
theorem mS_sh {σ τ : xH} {S : St} (h : mS σ S) {j m : Nat} {b : Int32} {f : Nat → Int64} (e1 : ∀ q, q ≠ 10 → q ≠ 11 → τ.1 q = σ.1 q) (eo : ∀ i, i < 4 → i ≠ j → τ.1 10 i = σ.1 10 i ∧ τ.1 11 i = σ.1 11 i ∧ ∀ q, q < 40 → τ.2 12 (40 * i + q) = σ.2 12 (40 * i + q)) (ej : mh τ j b m f) : mS τ (pSh S j b m f) := by
  obtain ⟨h1, h2, h3, h4, h5, h6, h7, h8, h9⟩ := h
  refine ⟨ms_keep h1 (fun i _ => by rw [e1 1 (by omega) (by omega)]), by rw [e1 0 (by omega) (by omega)]; exact h2, fun U hU => ms_keep (h3 U hU) (fun i _ => by rw [e1 2 (by omega) (by omega)]), by rw [e1 0 (by omega) (by omega)]; exact h4, fun i hi => by rw [e1 6 (by omega) (by omega)]; exact h5 i hi, h6, fun i hi => ?_, fun i hi => by rw [e1 4 (by omega) (by omega)]; exact h8 i hi, ?_⟩
  · show mh τ i (upd (gW S) j b i) (updn (gZ S) j m i) (if i = j then f else gN S i)
    by_cases e : i = j
    · subst e
      unfold upd updn
      rw [if_pos rfl, if_pos rfl, if_pos rfl]
      exact ej
    · unfold upd updn
      rw [if_neg e, if_neg e, if_neg e]
      obtain ⟨g1, g2, g3, g4⟩ := h7 i hi
      obtain ⟨f1, f2, f3⟩ := eo i hi e
      exact ⟨f1.trans g1, f2.trans g2, fun q hq => (f3 q hq).trans (g3 q hq), g4⟩
  · exact ⟨fun i hi => by rw [e1 7 (by omega) (by omega)]; exact h9.1 i hi, fun i hi => by rw [e1 8 (by omega) (by omega)]; exact h9.2.1 i hi, fun i hi => by rw [e1 9 (by omega) (by omega)]; exact h9.2.2 i hi⟩
theorem xl_o {σ : xH} {c p q : Nat} {v : Int64} (h : q ≠ p) : (xpl σ c p v).2 c q = σ.2 c q := by simp [xul, vp_updL, h]
theorem xl_s {σ : xH} {c p : Nat} {v : Int64} : (xpl σ c p v).2 c p = v := by simp [xul, vp_updL]
theorem mh_put {σ : xH} {j m i : Nat} {b : Int32} {f : Nat → Int64} (h : mh σ j b m f) (v : Int64) : mh (xpl σ 12 (40 * j + i) v) j b m (vp_updL f i v) := by
  obtain ⟨g1, g2, g3, g4⟩ := h
  refine ⟨g1, g2, fun q hq => ?_, g4⟩
  unfold vp_updL
  by_cases e : q = i
  · rw [if_pos e, e]; exact xl_s
  · rw [if_neg e, xl_o (by omega)]; exact g3 q hq
/-- only the numbers of sheet j (and what is only thought) may have changed -/
def fS2 (j : Nat) (σ τ : xH) : Prop := τ.1 = σ.1 ∧ ∀ i, i < 4 → i ≠ j → ∀ q, q < 40 → τ.2 12 (40 * i + q) = σ.2 12 (40 * i + q)
theorem fS2_rf (j : Nat) (σ : xH) : fS2 j σ σ := ⟨rfl, fun _ _ _ _ _ => rfl⟩
theorem fS2_tr {j : Nat} {σ τ υ : xH} (h : fS2 j σ τ) (g : fS2 j τ υ) : fS2 j σ υ := ⟨g.1.trans h.1, fun i a b q c => (g.2 i a b q c).trans (h.2 i a b q c)⟩
theorem fS2_put {j i : Nat} {σ : xH} {v : Int64} (hi : i < 40) : fS2 j σ (xpl σ 12 (40 * j + i) v) := ⟨rfl, fun a ha hn q hq => xl_o (by omega)⟩
theorem mS_S2 {σ τ : xH} {S : St} (h : mS σ S) {j m : Nat} {b : Int32} {f : Nat → Int64} (hf : fS2 j σ τ) (ej : mh τ j b m f) : mS τ (pSh S j b m f) := mS_sh h (fun q _ _ => by rw [hf.1]) (fun i hi hn => ⟨by rw [hf.1], by rw [hf.1], hf.2 i hi hn⟩) ej
set_option maxHeartbeats 4000000 in
set_option maxRecDepth 20000 in
theorem c_ws0 {σ : xH} {K : Int32 → xH → Prop} {s : Int32} (hc : ¬ vR (nI 0) (nI 3) s) (hk : K (nI 0) σ) : Evi l (oM ad D cy) mX5_wrongSheet [.ref 0, .int s] σ K := by
  refine x_enter (ls := [some (.ref 0), some (.int s)]) rfl ?_
  refine x_iload_n (i := 1) dX5_wrongSheet_0 rfl rfl ?_
  refine x_s1i dX5_wrongSheet_1 okX5_isSheet ml_X5_220 (Nat.le_of_ble_eq_true rfl) ⟨by decide, by decide⟩ (Nat.le_of_ble_eq_true rfl) (c_X5_isSheet _ ?_)
  refine x_ifneP (tgt := 11) dX5_wrongSheet_4 rfl (fun h4 => ?_) (fun h4 => ?_)
  · exact absurd h4 hc
  · skip
    refine x_iconstN (n := 0) dX5_wrongSheet_7 ?_
    refine x_goto (tgt := 25) dX5_wrongSheet_8 rfl ?_
    exact x_ireti dX5_wrongSheet_25 rfl hk
set_option maxHeartbeats 4000000 in
set_option maxRecDepth 20000 in
theorem c_ws5 {σ : xH} {K : Int32 → xH → Prop} {S : St} (hS : mS σ S) {j : Nat} (hj : j < 4) (hw : gW S j = 0) (hk : K (nI 5) σ) : Evi l (oM ad D cy) mX5_wrongSheet [.ref 0, .int (nI j)] σ K := by
  refine x_enter (ls := [some (.ref 0), some (.int (nI j))]) rfl ?_
  refine x_iload_n (i := 1) dX5_wrongSheet_0 rfl rfl ?_
  refine x_s1i dX5_wrongSheet_1 okX5_isSheet ml_X5_220 (Nat.le_of_ble_eq_true rfl) ⟨by decide, by decide⟩ (Nat.le_of_ble_eq_true rfl) (c_X5_isSheet _ ?_)
  refine x_ifneP (tgt := 11) dX5_wrongSheet_4 rfl (fun h4 => ?_) (fun h4 => ?_)
  · skip
    refine x_aload_n (i := 0) dX5_wrongSheet_11 rfl rfl ?_
    refine x_getr (i := 17) dX5_wrongSheet_12 rfl rfl rfl (by decide) fl_X5_38 inX5 ?_
    refine x_iload_n (i := 1) dX5_wrongSheet_15 rfl rfl ?_
    refine x_ialdE dX5_wrongSheet_16 rfl (by omega) (by decide) (hS.2.2.2.2.2.2.1 j hj).1 ?_
    refine x_ifne (tgt := 24) dX5_wrongSheet_17 rfl (fun h17 => ?_) (fun h17 => ?_)
    · exact absurd hw h17
    · skip
      refine x_iconstN (n := 5) dX5_wrongSheet_20 ?_
      refine x_goto (tgt := 25) dX5_wrongSheet_21 rfl ?_
      exact x_ireti dX5_wrongSheet_25 rfl hk
  · exact absurd (show vR (nI 0) (nI 3) (nI j) from vR_nI (by omega) (by omega) (by decide)) h4
set_option maxHeartbeats 4000000 in
set_option maxRecDepth 20000 in
theorem c_wsm {σ : xH} {K : Int32 → xH → Prop} {S : St} (hS : mS σ S) {j : Nat} (hj : j < 4) (hw : ¬ gW S j = 0) (hk : K (-1) σ) : Evi l (oM ad D cy) mX5_wrongSheet [.ref 0, .int (nI j)] σ K := by
  refine x_enter (ls := [some (.ref 0), some (.int (nI j))]) rfl ?_
  refine x_iload_n (i := 1) dX5_wrongSheet_0 rfl rfl ?_
  refine x_s1i dX5_wrongSheet_1 okX5_isSheet ml_X5_220 (Nat.le_of_ble_eq_true rfl) ⟨by decide, by decide⟩ (Nat.le_of_ble_eq_true rfl) (c_X5_isSheet _ ?_)
  refine x_ifneP (tgt := 11) dX5_wrongSheet_4 rfl (fun h4 => ?_) (fun h4 => ?_)
  · skip
    refine x_aload_n (i := 0) dX5_wrongSheet_11 rfl rfl ?_
    refine x_getr (i := 17) dX5_wrongSheet_12 rfl rfl rfl (by decide) fl_X5_38 inX5 ?_
    refine x_iload_n (i := 1) dX5_wrongSheet_15 rfl rfl ?_
    refine x_ialdE dX5_wrongSheet_16 rfl (by omega) (by decide) (hS.2.2.2.2.2.2.1 j hj).1 ?_
    refine x_ifne (tgt := 24) dX5_wrongSheet_17 rfl (fun h17 => ?_) (fun h17 => ?_)
    · skip
      refine x_iconst (v := -1) dX5_wrongSheet_24 (by decide) ?_
      exact x_ireti dX5_wrongSheet_25 rfl hk
    · exact absurd h17 hw
  · exact absurd (show vR (nI 0) (nI 3) (nI j) from vR_nI (by omega) (by omega) (by decide)) h4
set_option maxHeartbeats 4000000 in
set_option maxRecDepth 20000 in
theorem c_ww0 {σ : xH} {K : Int32 → xH → Prop} {s : Int32} {p : Prop} [Decidable p] (hc : ¬ vR (nI 0) (nI 3) s) (hk : K (nI 0) σ) : Evi l (oM ad D cy) mX5_wrongWith [.ref 0, .int s, .int (xb p)] σ K := by
  refine x_enter (ls := [some (.ref 0), some (.int s), some (.int (xb p)), none]) rfl ?_
  refine x_aload_n (i := 0) dX5_wrongWith_0 rfl rfl ?_
  refine x_iload_n (i := 1) dX5_wrongWith_1 rfl rfl ?_
  refine x_v1i dX5_wrongWith_2 okX5_wrongSheet ml_X5_223 rfl rfl (Nat.le_of_ble_eq_true rfl) ⟨by decide, by decide⟩ (Nat.le_of_ble_eq_true rfl) (c_ws0 hc ?_)
  refine y_istore_n (i := 3) (ls2 := [_, _, _, _]) dX5_wrongWith_5 rfl (by decide) rfl rfl ?_
  refine x_iload_n (i := 3) dX5_wrongWith_6 rfl rfl ?_
  refine x_iflt (tgt := 14) dX5_wrongWith_7 rfl (fun h7 => ?_) (fun h7 => ?_)
  · exact absurd h7 (by decide)
  · skip
    refine x_iload_n (i := 3) dX5_wrongWith_10 rfl rfl ?_
    refine x_goto (tgt := 23) dX5_wrongWith_11 rfl ?_
    exact x_ireti dX5_wrongWith_23 rfl hk
set_option maxHeartbeats 4000000 in
set_option maxRecDepth 20000 in
theorem c_ww5 {σ : xH} {K : Int32 → xH → Prop} {S : St} (hS : mS σ S) {j : Nat} (hj : j < 4) {p : Prop} [Decidable p] (hw : gW S j = 0) (hk : K (nI 5) σ) : Evi l (oM ad D cy) mX5_wrongWith [.ref 0, .int (nI j), .int (xb p)] σ K := by
  refine x_enter (ls := [some (.ref 0), some (.int (nI j)), some (.int (xb p)), none]) rfl ?_
  refine x_aload_n (i := 0) dX5_wrongWith_0 rfl rfl ?_
  refine x_iload_n (i := 1) dX5_wrongWith_1 rfl rfl ?_
  refine x_v1i dX5_wrongWith_2 okX5_wrongSheet ml_X5_223 rfl rfl (Nat.le_of_ble_eq_true rfl) ⟨by decide, by decide⟩ (Nat.le_of_ble_eq_true rfl) (c_ws5 hS hj hw ?_)
  refine y_istore_n (i := 3) (ls2 := [_, _, _, _]) dX5_wrongWith_5 rfl (by decide) rfl rfl ?_
  refine x_iload_n (i := 3) dX5_wrongWith_6 rfl rfl ?_
  refine x_iflt (tgt := 14) dX5_wrongWith_7 rfl (fun h7 => ?_) (fun h7 => ?_)
  · exact absurd h7 (by decide)
  · skip
    refine x_iload_n (i := 3) dX5_wrongWith_10 rfl rfl ?_
    refine x_goto (tgt := 23) dX5_wrongWith_11 rfl ?_
    exact x_ireti dX5_wrongWith_23 rfl hk
set_option maxHeartbeats 4000000 in
set_option maxRecDepth 20000 in
theorem c_wwb {σ : xH} {K : Int32 → xH → Prop} {S : St} (hS : mS σ S) {j : Nat} (hj : j < 4) {p : Prop} [Decidable p] (hw : ¬ gW S j = 0) (hp : ¬ p) (hk : K (nI 0) σ) : Evi l (oM ad D cy) mX5_wrongWith [.ref 0, .int (nI j), .int (xb p)] σ K := by
  refine x_enter (ls := [some (.ref 0), some (.int (nI j)), some (.int (xb p)), none]) rfl ?_
  refine x_aload_n (i := 0) dX5_wrongWith_0 rfl rfl ?_
  refine x_iload_n (i := 1) dX5_wrongWith_1 rfl rfl ?_
  refine x_v1i dX5_wrongWith_2 okX5_wrongSheet ml_X5_223 rfl rfl (Nat.le_of_ble_eq_true rfl) ⟨by decide, by decide⟩ (Nat.le_of_ble_eq_true rfl) (c_wsm hS hj hw ?_)
  refine y_istore_n (i := 3) (ls2 := [_, _, _, _]) dX5_wrongWith_5 rfl (by decide) rfl rfl ?_
  refine x_iload_n (i := 3) dX5_wrongWith_6 rfl rfl ?_
  refine x_iflt (tgt := 14) dX5_wrongWith_7 rfl (fun h7 => ?_) (fun h7 => ?_)
  · skip
    refine x_iload_n (i := 2) dX5_wrongWith_14 rfl rfl ?_
    refine x_ifeqP (tgt := 22) dX5_wrongWith_15 rfl (fun h15 => ?_) (fun h15 => ?_)
    · skip
      refine x_iconstN (n := 0) dX5_wrongWith_22 ?_
      exact x_ireti dX5_wrongWith_23 rfl hk
    · exact absurd h15 hp
  · exact absurd h7 (by decide)
set_option maxHeartbeats 4000000 in
set_option maxRecDepth 20000 in
theorem c_wwm {σ : xH} {K : Int32 → xH → Prop} {S : St} (hS : mS σ S) {j : Nat} (hj : j < 4) {p : Prop} [Decidable p] (hw : ¬ gW S j = 0) (hp : p) (hk : K (-1) σ) : Evi l (oM ad D cy) mX5_wrongWith [.ref 0, .int (nI j), .int (xb p)] σ K := by
  refine x_enter (ls := [some (.ref 0), some (.int (nI j)), some (.int (xb p)), none]) rfl ?_
  refine x_aload_n (i := 0) dX5_wrongWith_0 rfl rfl ?_
  refine x_iload_n (i := 1) dX5_wrongWith_1 rfl rfl ?_
  refine x_v1i dX5_wrongWith_2 okX5_wrongSheet ml_X5_223 rfl rfl (Nat.le_of_ble_eq_true rfl) ⟨by decide, by decide⟩ (Nat.le_of_ble_eq_true rfl) (c_wsm hS hj hw ?_)
  refine y_istore_n (i := 3) (ls2 := [_, _, _, _]) dX5_wrongWith_5 rfl (by decide) rfl rfl ?_
  refine x_iload_n (i := 3) dX5_wrongWith_6 rfl rfl ?_
  refine x_iflt (tgt := 14) dX5_wrongWith_7 rfl (fun h7 => ?_) (fun h7 => ?_)
  · skip
    refine x_iload_n (i := 2) dX5_wrongWith_14 rfl rfl ?_
    refine x_ifeqP (tgt := 22) dX5_wrongWith_15 rfl (fun h15 => ?_) (fun h15 => ?_)
    · exact absurd hp h15
    · skip
      refine x_iconst (v := -1) dX5_wrongWith_18 (by decide) ?_
      refine x_goto (tgt := 23) dX5_wrongWith_19 rfl ?_
      exact x_ireti dX5_wrongWith_23 rfl hk
  · exact absurd h7 (by decide)
set_option maxHeartbeats 4000000 in
set_option maxRecDepth 20000 in
theorem c_X5_told {σ : xH} {K : Int64 → xH → Prop} {j m i : Nat} {b : Int32} {f : Nat → Int64} (hj : j < 4) (hm : mh σ j b m f) (hi : i < 40) (hk : K (f i) σ) : Evl l (oM ad D cy) mX5_told [.ref 0, .int (nI j), .int (nI i)] σ K := by
  refine x_enter (ls := [some (.ref 0), some (.int (nI j)), some (.int (nI i))]) rfl ?_
  refine x_aload_n (i := 0) dX5_told_0 rfl rfl ?_
  refine x_getr (i := 19) dX5_told_1 rfl rfl rfl (by decide) fl_X5_44 inX5 ?_
  refine x_bipush (v := nI 40) dX5_told_4 (by decide) ?_
  refine x_iload_n (i := 1) dX5_told_6 rfl rfl ?_
  refine x_imulN dX5_told_7 ?_
  refine x_iload_n (i := 2) dX5_told_8 rfl rfl ?_
  refine x_iaddN dX5_told_9 ?_
  refine x_laldE dX5_told_10 rfl (by omega) (by decide) (hm.2.2.1 i hi) ?_
  exact x_retl dX5_told_11 rfl hk
set_option maxHeartbeats 4000000 in
set_option maxRecDepth 20000 in
theorem c_X5_tells {σ : xH} {K : xH → Prop} {j m i : Nat} {b : Int32} {f : Nat → Int64} (hj : j < 4) (hm : mh σ j b m f) (hi : i < 40) (v : Int64) (hk : ∀ τ, mh τ j b m (vp_updL f i (sBits b v)) → fS2 j σ τ → K τ) : Evv l (oM ad D cy) mX5_tells [.ref 0, .int (nI j), .int (nI i), .long v] σ K := by
  refine x_enter (ls := [some (.ref 0), some (.int (nI j)), some (.int (nI i)), some (.long v), none]) rfl ?_
  refine x_aload_n (i := 0) dX5_tells_0 rfl rfl ?_
  refine x_getr (i := 19) dX5_tells_1 rfl rfl rfl (by decide) fl_X5_44 inX5 ?_
  refine x_bipush (v := nI 40) dX5_tells_4 (by decide) ?_
  refine x_iload_n (i := 1) dX5_tells_6 rfl rfl ?_
  refine x_imulN dX5_tells_7 ?_
  refine x_iload_n (i := 2) dX5_tells_8 rfl rfl ?_
  refine x_iaddN dX5_tells_9 ?_
  refine x_aload_n (i := 0) dX5_tells_10 rfl rfl ?_
  refine x_getr (i := 17) dX5_tells_11 rfl rfl rfl (by decide) fl_X5_38 inX5 ?_
  refine x_iload_n (i := 1) dX5_tells_14 rfl rfl ?_
  refine x_ialdE dX5_tells_15 rfl (by omega) (by decide) hm.1 ?_
  refine x_bipush (v := nI 8) dX5_tells_16 (by decide) ?_
  refine x_icne (tgt := 28) dX5_tells_18 rfl (fun h18 => ?_) (fun h18 => ?_)
  · skip
    refine x_aload_n (i := 0) dX5_tells_28 rfl rfl ?_
    refine x_getr (i := 17) dX5_tells_29 rfl rfl rfl (by decide) fl_X5_38 inX5 ?_
    refine x_iload_n (i := 1) dX5_tells_32 rfl rfl ?_
    refine x_ialdE dX5_tells_33 rfl (by omega) (by decide) hm.1 ?_
    refine x_bipush (v := nI 16) dX5_tells_34 (by decide) ?_
    refine x_icne (tgt := 46) dX5_tells_36 rfl (fun h36 => ?_) (fun h36 => ?_)
    · skip
      refine x_lload_n (i := 3) dX5_tells_46 rfl rfl ?_
      refine x_lastN dX5_tells_47 rfl (by omega) (by decide) ?_
      exact x_retv dX5_tells_48 rfl (by first | (have e : sBits b v = _ := if_pos h18; rw [e] at hk; exact hk _ (mh_put hm _) (fS2_put hi)) | (have e : sBits b v = _ := (if_neg h18).trans (if_pos h36); rw [e] at hk; exact hk _ (mh_put hm _) (fS2_put hi)) | (have e : sBits b v = _ := (if_neg h18).trans (if_neg h36); rw [e] at hk; exact hk _ (mh_put hm _) (fS2_put hi)))
    · skip
      refine x_lload_n (i := 3) dX5_tells_39 rfl rfl ?_
      refine x_l2i dX5_tells_40 ?_
      refine x_i2s dX5_tells_41 ?_
      refine x_i2l dX5_tells_42 ?_
      refine x_goto (tgt := 47) dX5_tells_43 rfl ?_
      refine x_lastN dX5_tells_47 rfl (by omega) (by decide) ?_
      exact x_retv dX5_tells_48 rfl (by first | (have e : sBits b v = _ := if_pos h18; rw [e] at hk; exact hk _ (mh_put hm _) (fS2_put hi)) | (have e : sBits b v = _ := (if_neg h18).trans (if_pos h36); rw [e] at hk; exact hk _ (mh_put hm _) (fS2_put hi)) | (have e : sBits b v = _ := (if_neg h18).trans (if_neg h36); rw [e] at hk; exact hk _ (mh_put hm _) (fS2_put hi)))
  · skip
    refine x_lload_n (i := 3) dX5_tells_21 rfl rfl ?_
    refine x_l2i dX5_tells_22 ?_
    refine x_i2b dX5_tells_23 ?_
    refine x_i2l dX5_tells_24 ?_
    refine x_goto (tgt := 47) dX5_tells_25 rfl ?_
    refine x_lastN dX5_tells_47 rfl (by omega) (by decide) ?_
    exact x_retv dX5_tells_48 rfl (by first | (have e : sBits b v = _ := if_pos h18; rw [e] at hk; exact hk _ (mh_put hm _) (fS2_put hi)) | (have e : sBits b v = _ := (if_neg h18).trans (if_pos h36); rw [e] at hk; exact hk _ (mh_put hm _) (fS2_put hi)) | (have e : sBits b v = _ := (if_neg h18).trans (if_neg h36); rw [e] at hk; exact hk _ (mh_put hm _) (fS2_put hi)))
end
