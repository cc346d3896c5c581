section
variable {l : Launch} {ad : Nat → Nat} {D : va_G} {cy : Nat → ClassId}
/-- k letters from s on are those of word w -/
def wdm (b : Nat → Int32) (s w : Nat) : Nat → Bool
  | 0 => true
  | k + 1 => wdm b s w k && decide (b (s + k) = (xbyt.getD w []).getD k 0)
theorem wdm_f (b : Nat → Int32) (s w : Nat) {i : Nat} (h : wdm b s w i = false) : ∀ m, i ≤ m → wdm b s w m = false := by
  intro m
  induction m with
  | zero => intro hm; rwa [Nat.le_zero.mp hm] at h
  | succ m ih =>
    intro hm
    by_cases e : i = m + 1
    · rwa [e] at h
    · rw [wdm, ih (by omega), Bool.false_and]
def isW (b : Nat → Int32) (L s w : Nat) : Bool := decide (kS b L s = 1) && (decide (eS b L s - s = xlen.getD w 0) && wdm b s w (xlen.getD w 0))
theorem kS_4 (b : Nat → Int32) (L s : Nat) : kS b L s ≤ 4 := by
  unfold kS
  repeat' split
  all_goals omega
set_option maxHeartbeats 4000000 in
set_option maxRecDepth 20000 in
theorem l_X2_isWord {K : Int32 → xH → Prop} {σ : xH} {b : Nat → Int32} {L s w : Nat} (hw : w < 14) (hp : tp σ b L) (h3 : σ.1 19 3 = nI s) (hsl : s + xlen.getD w 0 ≤ L) (hk : K (xb (wdm b s w (xlen.getD w 0) = true)) σ) : ∀ (n i : Nat) , i + n = xlen.getD w 0 → (wdm b s w i = true) → Ex l (oC ad D cy) mX2_isWord 28 [some (.ref 19), some (.ref (1000 + w)), some (.int (nI i))] [] σ (xQi K) := by
  intro n
  induction n with
  | zero =>
    intro i  hi eg
    have hi : i = xlen.getD w 0 := by omega
    subst hi
    have hL := hp.2.2
    have h9 := sl9 w hw
    refine x_iload_n (i := 2) dX2_isWord_28 rfl rfl ?_
    refine x_aload_n (i := 1) dX2_isWord_29 rfl rfl ?_
    refine x_w0i dX2_isWord_30 okJ0_length_8abf5 ml_X2_110 rfl hw (Nat.le_of_ble_eq_true rfl) ⟨by decide, by decide⟩ (Nat.le_of_ble_eq_true rfl) (c_length hw ?_)
    refine x_icgeN (tgt := 63) (by omega) (by omega) dX2_isWord_33 rfl (fun h33 => ?_) (fun h33 => ?_)
    · skip
      refine x_iconstN (n := 1) dX2_isWord_63 ?_
      exact x_iretz dX2_isWord_64 rfl (by decide) (by rw [xb_t eg] at hk; exact hk)
    · exact absurd h33 (by omega)
  | succ n ih =>
    intro i  hi eg
    have hL := hp.2.2
    have h9 := sl9 w hw
    refine x_iload_n (i := 2) dX2_isWord_28 rfl rfl ?_
    refine x_aload_n (i := 1) dX2_isWord_29 rfl rfl ?_
    refine x_w0i dX2_isWord_30 okJ0_length_8abf5 ml_X2_110 rfl hw (Nat.le_of_ble_eq_true rfl) ⟨by decide, by decide⟩ (Nat.le_of_ble_eq_true rfl) (c_length hw ?_)
    refine x_icgeN (tgt := 63) (by omega) (by omega) dX2_isWord_33 rfl (fun h33 => ?_) (fun h33 => ?_)
    · exact absurd h33 (by omega)
    · skip
      refine x_aload_n (i := 0) dX2_isWord_36 rfl rfl ?_
      refine x_getr (i := 0) dX2_isWord_37 rfl rfl rfl (by decide) fl_X2_9 inX2 ?_
      refine x_aload_n (i := 0) dX2_isWord_40 rfl rfl ?_
      refine x_getiE (i := 3) dX2_isWord_41 rfl rfl rfl (by decide) fl_X2_29 inX2 h3 ?_
      refine x_iload_n (i := 2) dX2_isWord_44 rfl rfl ?_
      refine x_iaddN dX2_isWord_45 ?_
      refine x_ialdE dX2_isWord_46 rfl (by omega) (by decide) (hp.2.1 (s + i) (by omega)) ?_
      refine x_aload_n (i := 1) dX2_isWord_47 rfl rfl ?_
      refine x_iload_n (i := 2) dX2_isWord_48 rfl rfl ?_
      refine x_w1i dX2_isWord_49 okJ0_charAt_5068e ml_X2_114 rfl hw (Nat.le_of_ble_eq_true rfl) ⟨by decide, by decide⟩ (Nat.le_of_ble_eq_true rfl) (c_charAt hw (by omega) ?_)
      refine x_iceq (tgt := 57) dX2_isWord_52 rfl (fun h52 => ?_) (fun h52 => ?_)
      · skip
        refine y_iincN (i := 2) (ls2 := [_, _, _]) dX2_isWord_57 rfl (by decide) rfl rfl ?_
        refine x_goto (tgt := 28) dX2_isWord_60 rfl ?_
        exact ih (i + 1) (by omega) (by rw [wdm, eg, Bool.true_and]; exact decide_eq_true h52)
      · skip
        refine x_iconstN (n := 0) dX2_isWord_55 ?_
        exact x_iretz dX2_isWord_56 rfl (by decide) (by rw [xb_f (show ¬ wdm b s w (xlen.getD w 0) = true by rw [wdm_f b s w (i := i + 1) (by rw [wdm, eg, Bool.true_and]; exact decide_eq_false h52) (xlen.getD w 0) (by omega)]; decide)] at hk; exact hk)
set_option maxHeartbeats 4000000 in
set_option maxRecDepth 20000 in
theorem c_X2_isWord {σ : xH} {K : Int32 → xH → Prop} {b : Nat → Int32} {L s w : Nat} (hw : w < 14) (hp : tp σ b L) (hT : cT σ b L s) (hs : s ≤ L) (hk : K (xb (isW b L s w = true)) σ) : Evi l (oC ad D cy) mX2_isWord [.ref 19, .ref (1000 + w)] σ K := by
  refine x_enter (ls := [some (.ref 19), some (.ref (1000 + w)), none]) rfl ?_
  have hL := hp.2.2
  have h9 := sl9 w hw
  have h4 := kS_4 b L s
  have he := eS_le (b := b) hs
  refine x_aload_n (i := 0) dX2_isWord_0 rfl rfl ?_
  refine x_getiE (i := 2) dX2_isWord_1 rfl rfl rfl (by decide) fl_X2_32 inX2 hT.1 ?_
  refine x_iconstN (n := 1) dX2_isWord_4 ?_
  refine x_icneN (tgt := 24) (by omega) (by omega) dX2_isWord_5 rfl (fun h5 => ?_) (fun h5 => ?_)
  · skip
    refine x_iconstN (n := 0) dX2_isWord_24 ?_
    exact x_iretz dX2_isWord_25 rfl (by decide) (by rw [xb_f (show ¬ isW b L s w = true by unfold isW; rw [decide_eq_false h5, Bool.false_and]; decide)] at hk; exact hk)
  · skip
    refine x_aload_n (i := 0) dX2_isWord_8 rfl rfl ?_
    refine x_getiE (i := 4) dX2_isWord_9 rfl rfl rfl (by decide) fl_X2_19 inX2 hT.2.2.1 ?_
    refine x_aload_n (i := 0) dX2_isWord_12 rfl rfl ?_
    refine x_getiE (i := 3) dX2_isWord_13 rfl rfl rfl (by decide) fl_X2_29 inX2 hT.2.1 ?_
    refine x_isubN (by omega) dX2_isWord_16 ?_
    refine x_aload_n (i := 1) dX2_isWord_17 rfl rfl ?_
    refine x_w0i dX2_isWord_18 okJ0_length_8abf5 ml_X2_110 rfl hw (Nat.le_of_ble_eq_true rfl) ⟨by decide, by decide⟩ (Nat.le_of_ble_eq_true rfl) (c_length hw ?_)
    refine x_iceqN (tgt := 26) (by omega) (by omega) dX2_isWord_21 rfl (fun h21 => ?_) (fun h21 => ?_)
    · skip
      refine x_iconstN (n := 0) dX2_isWord_26 ?_
      refine y_istore_n (i := 2) (ls2 := [_, _, _]) dX2_isWord_27 rfl (by decide) rfl rfl ?_
      exact l_X2_isWord hw hp hT.2.1 (by omega) (by rw [isW, decide_eq_true h5, decide_eq_true (p := eS b L s - s = xlen.getD w 0) h21, Bool.true_and, Bool.true_and] at hk; exact hk) (xlen.getD w 0) 0 (by omega) rfl
    · skip
      refine x_iconstN (n := 0) dX2_isWord_24 ?_
      exact x_iretz dX2_isWord_25 rfl (by decide) (by rw [xb_f (show ¬ isW b L s w = true by unfold isW; rw [decide_eq_false (p := eS b L s - s = xlen.getD w 0) h21, Bool.false_and, Bool.and_false]; decide)] at hk; exact hk)
end
