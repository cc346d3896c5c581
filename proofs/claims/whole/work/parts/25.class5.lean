section
variable {l : Launch} {ad : Nat → Nat} {D : va_G} {cy : Nat → ClassId}
/-! the best of several: none yet, or which and how much -/
abbrev Bs : Type := Option (Nat × Int32)
def bI (o : Bs) : Int32 := match o with
  | none => -1
  | some (b, _) => nI b
def bV (o : Bs) : Int32 := match o with
  | none => nI 0
  | some (_, v) => v
def stMin (o : Bs) (i : Nat) (v : Int32) : Bs := match o with
  | none => some (i, v)
  | some (b, w) => if w ≤ v then some (b, w) else some (i, v)
def stMax (o : Bs) (i : Nat) (v : Int32) : Bs := match o with
  | none => some (i, v)
  | some (b, w) => if v ≤ w then some (b, w) else some (i, v)
def bMin (p : Nat → Bool) (f : Nat → Int32) : Nat → Bs
  | 0 => none
  | i + 1 => if p i = true then stMin (bMin p f i) i (f i) else bMin p f i
def bMax (f : Nat → Int32) : Nat → Bs
  | 0 => none
  | i + 1 => stMax (bMax f i) i (f i)
theorem stMin_lt {o : Bs} {i : Nat} {v : Int32} (h : bI o < 0) (hb : ∀ b w, o = some (b, w) → b < 2 ^ 31) : stMin o i v = some (i, v) := by
  match o, h with
  | none, _ => rfl
  | some (b, w), h => exact absurd h (nI_pos (hb b w rfl))
theorem stMin_ge {o : Bs} {i : Nat} {v : Int32} (h : ¬ bI o < 0) (h2 : bV o ≤ v) : stMin o i v = o := by
  match o, h, h2 with
  | none, h, _ => exact absurd (show bI none < 0 by decide) h
  | some (b, w), _, h2 => exact if_pos h2
theorem stMin_up {o : Bs} {i : Nat} {v : Int32} (h : ¬ bI o < 0) (h2 : ¬ bV o ≤ v) : stMin o i v = some (i, v) := by
  match o, h, h2 with
  | none, h, _ => exact absurd (show bI none < 0 by decide) h
  | some (b, w), _, h2 => exact if_neg h2
theorem stMax_lt {o : Bs} {i : Nat} {v : Int32} (h : bI o < 0) (hb : ∀ b w, o = some (b, w) → b < 2 ^ 31) : stMax o i v = some (i, v) := by
  match o, h with
  | none, _ => rfl
  | some (b, w), h => exact absurd h (nI_pos (hb b w rfl))
theorem stMax_ge {o : Bs} {i : Nat} {v : Int32} (h : ¬ bI o < 0) (h2 : v ≤ bV o) : stMax o i v = o := by
  match o, h, h2 with
  | none, h, _ => exact absurd (show bI none < 0 by decide) h
  | some (b, w), _, h2 => exact if_pos h2
theorem stMax_up {o : Bs} {i : Nat} {v : Int32} (h : ¬ bI o < 0) (h2 : ¬ v ≤ bV o) : stMax o i v = some (i, v) := by
  match o, h, h2 with
  | none, h, _ => exact absurd (show bI none < 0 by decide) h
  | some (b, w), _, h2 => exact if_neg h2
theorem bMin_b (p : Nat → Bool) (f : Nat → Int32) : ∀ n b w, bMin p f n = some (b, w) → b < n := by
  intro n
  induction n with
  | zero => intro b w h; cases h
  | succ n ih =>
    intro b w h
    rw [bMin] at h
    by_cases hp : p n = true
    · rw [if_pos hp] at h
      match ho : bMin p f n, h with
      | none, h => cases h; omega
      | some (b', w'), h =>
        have h : (if w' ≤ f n then some (b', w') else some (n, f n)) = some (b, w) := h
        by_cases hw : w' ≤ f n
        · rw [if_pos hw] at h
          cases h
          have := ih b w ho
          omega
        · rw [if_neg hw] at h
          cases h
          omega
    · rw [if_neg hp] at h
      have := ih b w h
      omega
theorem bMax_b (f : Nat → Int32) : ∀ n b w, bMax f n = some (b, w) → b < n := by
  intro n
  induction n with
  | zero => intro b w h; cases h
  | succ n ih =>
    intro b w h
    rw [bMax] at h
    match ho : bMax f n, h with
    | none, h => cases h; omega
    | some (b', w'), h =>
      have h : (if f n ≤ w' then some (b', w') else some (n, f n)) = some (b, w) := h
      by_cases hw : f n ≤ w'
      · rw [if_pos hw] at h
        cases h
        have := ih b w ho
        omega
      · rw [if_neg hw] at h
        cases h
        omega
/-- the answer out of a best: it, or NONE -/
def bR (S : St) (o : Bs) : Int32 × St := match o with
  | none => tellS S 3
  | some (b, _) => (nI b, S)
def oTame (S : St) (d a : Int32) : Int32 × St := if vN (tN (gT S)) d ∧ vN 3 a then bR S (bMin (fun i => decide (tTh (gT S) (cn a * 20 + i) = 0)) (fun i => pTop (layT (gT S) (cn a * 20 + i) (nI 1)) (tKd (gT S) (cn d)) (tWs (gT S) (cn d)) (cn a)) 20) else tellS S 0
def oClear (S : St) (a m : Int32) : Int32 × St := if vN 3 a ∧ vR (nI 0) (nI 20) m then bR S (bMin (fun i => !decide (tTh (gT S) (cn a * 20 + i) = 0)) (fun i => pShAll (daysC (layT (gT S) (cn a * 20 + i) (nI 0)) (cn m))) 20) else tellS S 0
def loF (T : Tw) (m : Nat) (v : Int32) : Nat → Option Nat
  | 0 => none
  | c + 1 => if v < pShAll (daysC (setIn T (nI (c + 1))) m) then loF T m v c else some (c + 1)
def oR (S : St) (o : Option Nat) : Int32 × St := match o with
  | none => tellS S 3
  | some b => (nI b, S)
def oLower (S : St) (m v : Int32) : Int32 × St := if vR (nI 0) (nI 20) m ∧ vR (nI 0) (nI 99999) v then oR S (loF (gT S) (cn m) v 6) else tellS S 0
def lvF (T : Tw) (d : Nat) : Nat → Nat → Option Nat
  | 0, _ => none
  | f + 1, n => if tGo (daysC T n) d = tGo T d then lvF T d f (n + 1) else some n
def oLeaves (S : St) (d : Int32) : Int32 × St := if vN (tN (gT S)) d then oR S (lvF (gT S) (cn d) 100 1) else tellS S 0
def kB (T : Tw) (w : Int32) (r : Nat) : Nat → Nat × Int32
  | 0 => (0, pTime T (nI 0) w r)
  | i + 1 => if (kB T w r i).2 ≤ pTime T (nI (i + 1)) w r then kB T w r i else (i + 1, pTime T (nI (i + 1)) w r)
def oKind (S : St) (d a : Int32) : Int32 × St := if vN (tN (gT S)) d ∧ vN 3 a then (nI (kB (gT S) (tWs (gT S) (cn d)) (cn a) 5).1, S) else tellS S 0
def oWish (S : St) (d a t : Int32) : Int32 × St := if vN (tN (gT S)) d ∧ vN 3 a ∧ vR (nI 0) (nI 9999) t then (match bMin (fun i => !decide (t < pTime (gT S) (tKd (gT S) (cn d)) (nI (10 + i)) (cn a))) (fun i => pShake (gT S) (tKd (gT S) (cn d)) (nI (10 + i)) (cn a)) 71 with
  | none => tellS S 3
  | some (b, _) => (nI (10 + b), S)) else tellS S 0
def dB (T : Tw) (p : Nat) : Nat → Nat × Int32
  | 0 => (0, -1)
  | r + 1 => if sDiff (tGo (daysC (layT T (r * 20 + p) (nI 1)) 1)) (tGo T) (tN T) ≤ (dB T p r).2 then dB T p r else (r, sDiff (tGo (daysC (layT T (r * 20 + p) (nI 1)) 1)) (tGo T) (tN T))
def oDrives (S : St) (p : Int32) : Int32 × St := if vR (nI 0) (nI 19) p then (nI (dB (gT S) (cn p) 3).1, S) else tellS S 0
def oSlowest (S : St) : Int32 × St := bR S (bMax (fun d => sSum (fun r => pTime (gT S) (tKd (gT S) d) (tWs (gT S) d) r) 3) (tN (gT S)))
set_option maxHeartbeats 4000000 in
set_option maxRecDepth 20000 in
theorem l_X4_leaves {K : Int32 → xH → Prop} {σ0 : xH} {S : St} (hS : cS σ0 S) {d : Nat} (hd : d < tN (gT S)) (o : Option Nat) (hk : ∀ τ, cS τ (oR S o).2 → K (oR S o).1 τ) : ∀ (n i : Nat) (σ : xH), i + n = 101 → (o = lvF (gT S) d n i) → (1 ≤ i) → (tw σ 13 (daysC (gT S) (i - 1))) → (fr 13 σ0 σ) → Ex l (oC ad D cy) mX4_leaves 31 [some (.ref 0), some (.int (nI d)), some (.int (nI i))] [] σ (xQi K) := by
  have h8S := tw_8 hS.1
  intro n
  induction n with
  | zero =>
    intro i σ hi eo h1 hw1 hf
    have hi : i = 101 := by omega
    subst hi
    refine x_iload_n (i := 2) dX4_leaves_31 rfl rfl ?_
    refine x_bipush (v := nI 100) dX4_leaves_32 (by decide) ?_
    refine x_icgtN (tgt := 83) (by omega) (by omega) dX4_leaves_34 rfl (fun h34 => ?_) (fun h34 => ?_)
    · skip
      refine x_aload_n (i := 0) dX4_leaves_83 rfl rfl ?_
      refine x_ldc (v := -1000000004) dX4_leaves_84 kc_X4_160 ?_
      refine x_v1i dX4_leaves_86 okX4_tell ml_X4_53 rfl rfl (Nat.le_of_ble_eq_true rfl) ⟨by decide, by decide⟩ (Nat.le_of_ble_eq_true rfl) (c_X4_tell (cS_13 hS hf) 3 (by decide) (by decide) (by decide) (fun τ hτ => ?_))
      exact x_ireti dX4_leaves_89 rfl (by subst eo; exact hk τ hτ)
    · exact absurd h34 (by omega)
  | succ n ih =>
    intro i σ hi eo h1 hw1 hf
    refine x_iload_n (i := 2) dX4_leaves_31 rfl rfl ?_
    refine x_bipush (v := nI 100) dX4_leaves_32 (by decide) ?_
    refine x_icgtN (tgt := 83) (by omega) (by omega) dX4_leaves_34 rfl (fun h34 => ?_) (fun h34 => ?_)
    · exact absurd h34 (by omega)
    · skip
      refine x_aload_n (i := 0) dX4_leaves_37 rfl rfl ?_
      refine x_getr (i := 2) dX4_leaves_38 rfl rfl rfl (by decide) fl_X4_19 inX4 ?_
      refine x_iload_n (i := 2) dX4_leaves_41 rfl rfl ?_
      refine x_iconstN (n := 1) dX4_leaves_42 ?_
      refine x_icneN (tgt := 50) (by omega) (by omega) dX4_leaves_43 rfl (fun h43 => ?_) (fun h43 => ?_)
      · skip
        refine x_iconstN (n := 0) dX4_leaves_50 ?_
        refine x_v1v dX4_leaves_51 okX3_letDayGo ml_X4_156 (sT0 isT13) rfl (Nat.le_of_ble_eq_true rfl) ⟨by decide, by decide⟩ (Nat.le_of_ble_eq_true rfl) (c_X3_letDayGo isT13 hw1 _ (fun τ hw2 hf2 => ?_))
        have hw2 : tw τ 13 (daysC (gT S) i) := by
          obtain ⟨q, rfl⟩ : ∃ q, i = q + 1 := ⟨i - 1, by omega⟩
          rw [daysC]
          have hw2 := hw2
          rw [Nat.add_sub_cancel] at hw2
          first | (rw [if_pos (show q = 0 by omega)]; exact hw2) | (rw [if_neg (show ¬ q = 0 by omega)]; exact hw2)
        have hn := daysC_n (gT S) i
        have h8 := tw_8 hw2
        have hP := (cS_13 hS (fr_tr hf hf2)).1
        have g1 := tw_g3 hw2 (d := d) (by omega)
        have g2 := tw_g3 hP (d := d) hd
        refine x_aload_n (i := 0) dX4_leaves_54 rfl rfl ?_
        refine x_getr (i := 2) dX4_leaves_55 rfl rfl rfl (by decide) fl_X4_19 inX4 ?_
        refine x_getr (i := 7) dX4_leaves_58 (sT0 isT13) rfl rfl (by decide) fl_X4_120 inX3 ?_
        refine x_iload_n (i := 1) dX4_leaves_61 rfl rfl ?_
        refine x_ialdE dX4_leaves_62 (sT5 isT13) (by omega) (by decide) (tw_go hw2 (d := d) (by omega)) ?_
        refine x_aload_n (i := 0) dX4_leaves_63 rfl rfl ?_
        refine x_getr (i := 0) dX4_leaves_64 rfl rfl rfl (by decide) fl_X4_10 inX4 ?_
        refine x_getr (i := 7) dX4_leaves_67 (sT0 isT1) rfl rfl (by decide) fl_X4_120 inX3 ?_
        refine x_iload_n (i := 1) dX4_leaves_70 rfl rfl ?_
        refine x_ialdE dX4_leaves_71 (sT5 isT1) (by omega) (by decide) (tw_go hP (d := d) hd) ?_
        refine x_iceqN (tgt := 77) (by omega) (by omega) dX4_leaves_72 rfl (fun h72 => ?_) (fun h72 => ?_)
        · skip
          refine y_iincN (i := 2) (ls2 := [_, _, _]) dX4_leaves_77 rfl (by decide) rfl rfl ?_
          refine x_goto (tgt := 31) dX4_leaves_80 rfl ?_
          exact ih (i + 1) τ (by omega) (eo.trans (by rw [lvF]; exact if_pos h72)) (by omega) (by rw [Nat.add_sub_cancel]; exact hw2) (fr_tr hf hf2)
        · skip
          refine x_iload_n (i := 2) dX4_leaves_75 rfl rfl ?_
          exact x_ireti dX4_leaves_76 rfl (by have e : o = some i := (eo.trans (by rw [lvF]; exact if_neg h72)); subst e; exact hk τ (cS_13 hS (fr_tr hf hf2)))
      · skip
        refine x_iconstN (n := 1) dX4_leaves_46 ?_
        refine x_goto (tgt := 51) dX4_leaves_47 rfl ?_
        refine x_v1v dX4_leaves_51 okX3_letDayGo ml_X4_156 (sT0 isT13) rfl (Nat.le_of_ble_eq_true rfl) ⟨by decide, by decide⟩ (Nat.le_of_ble_eq_true rfl) (c_X3_letDayGo isT13 hw1 _ (fun τ hw2 hf2 => ?_))
        have hw2 : tw τ 13 (daysC (gT S) i) := by
          obtain ⟨q, rfl⟩ : ∃ q, i = q + 1 := ⟨i - 1, by omega⟩
          rw [daysC]
          have hw2 := hw2
          rw [Nat.add_sub_cancel] at hw2
          first | (rw [if_pos (show q = 0 by omega)]; exact hw2) | (rw [if_neg (show ¬ q = 0 by omega)]; exact hw2)
        have hn := daysC_n (gT S) i
        have h8 := tw_8 hw2
        have hP := (cS_13 hS (fr_tr hf hf2)).1
        have g1 := tw_g3 hw2 (d := d) (by omega)
        have g2 := tw_g3 hP (d := d) hd
        refine x_aload_n (i := 0) dX4_leaves_54 rfl rfl ?_
        refine x_getr (i := 2) dX4_leaves_55 rfl rfl rfl (by decide) fl_X4_19 inX4 ?_
        refine x_getr (i := 7) dX4_leaves_58 (sT0 isT13) rfl rfl (by decide) fl_X4_120 inX3 ?_
        refine x_iload_n (i := 1) dX4_leaves_61 rfl rfl ?_
        refine x_ialdE dX4_leaves_62 (sT5 isT13) (by omega) (by decide) (tw_go hw2 (d := d) (by omega)) ?_
        refine x_aload_n (i := 0) dX4_leaves_63 rfl rfl ?_
        refine x_getr (i := 0) dX4_leaves_64 rfl rfl rfl (by decide) fl_X4_10 inX4 ?_
        refine x_getr (i := 7) dX4_leaves_67 (sT0 isT1) rfl rfl (by decide) fl_X4_120 inX3 ?_
        refine x_iload_n (i := 1) dX4_leaves_70 rfl rfl ?_
        refine x_ialdE dX4_leaves_71 (sT5 isT1) (by omega) (by decide) (tw_go hP (d := d) hd) ?_
        refine x_iceqN (tgt := 77) (by omega) (by omega) dX4_leaves_72 rfl (fun h72 => ?_) (fun h72 => ?_)
        · skip
          refine y_iincN (i := 2) (ls2 := [_, _, _]) dX4_leaves_77 rfl (by decide) rfl rfl ?_
          refine x_goto (tgt := 31) dX4_leaves_80 rfl ?_
          exact ih (i + 1) τ (by omega) (eo.trans (by rw [lvF]; exact if_pos h72)) (by omega) (by rw [Nat.add_sub_cancel]; exact hw2) (fr_tr hf hf2)
        · skip
          refine x_iload_n (i := 2) dX4_leaves_75 rfl rfl ?_
          exact x_ireti dX4_leaves_76 rfl (by have e : o = some i := (eo.trans (by rw [lvF]; exact if_neg h72)); subst e; exact hk τ (cS_13 hS (fr_tr hf hf2)))
set_option maxHeartbeats 4000000 in
set_option maxRecDepth 20000 in
theorem c_X4_leaves {σ : xH} {K : Int32 → xH → Prop} {S : St} (hS : cS σ S) (d : Int32) (hk : ∀ τ, cS τ (oLeaves S d).2 → K (oLeaves S d).1 τ) : Evi l (oC ad D cy) mX4_leaves [.ref 0, .int d] σ K := by
  have hw := hS.1
  have h8 := tw_8 hw
  refine x_enter (ls := [some (.ref 0), some (.int d), none]) rfl ?_
  by_cases hc : vN (tN (gT S)) d
  · unfold oLeaves at hk
    rw [if_pos hc] at hk
    obtain ⟨d, hd, rfl⟩ := vN_of hc (by omega)
    have hg := tw_g3 hw hd
    have h8d : d < 2 ^ 31 := by omega
    simp only [cn, nI_clamp h8d] at hk
    refine x_aload_n (i := 0) dX4_leaves_0 rfl rfl ?_
    refine x_getr (i := 0) dX4_leaves_1 rfl rfl rfl (by decide) fl_X4_10 inX4 ?_
    refine x_iload_n (i := 1) dX4_leaves_4 rfl rfl ?_
    refine x_v1i dX4_leaves_5 okX3_hasDriver ml_X4_111 (sT0 isT1) rfl (Nat.le_of_ble_eq_true rfl) ⟨by decide, by decide⟩ (Nat.le_of_ble_eq_true rfl) (c_X3_hasDriver isT1 hw _ ?_)
    refine x_ifneP (tgt := 18) dX4_leaves_8 rfl (fun h8 => ?_) (fun h8 => ?_)
    · skip
      refine x_aload_n (i := 0) dX4_leaves_18 rfl rfl ?_
      refine x_getr (i := 2) dX4_leaves_19 rfl rfl rfl (by decide) fl_X4_19 inX4 ?_
      refine x_aload_n (i := 0) dX4_leaves_22 rfl rfl ?_
      refine x_getr (i := 0) dX4_leaves_23 rfl rfl rfl (by decide) fl_X4_10 inX4 ?_
      refine x_v1v dX4_leaves_26 okX3_becomeLike ml_X4_152 (sT0 isT13) rfl (Nat.le_of_ble_eq_true rfl) ⟨by decide, by decide⟩ (Nat.le_of_ble_eq_true rfl) (c_X3_becomeLike isT13 isT1 hw (by omega) (fun τ hw1 hf1 => ?_))
      refine x_iconstN (n := 1) dX4_leaves_29 ?_
      refine y_istore_n (i := 2) (ls2 := [_, _, _]) dX4_leaves_30 rfl (by decide) rfl rfl ?_
      exact l_X4_leaves hS hd _ hk 100 1 τ rfl rfl (by omega) hw1 hf1
    · exact absurd hc h8
  · unfold oLeaves at hk
    rw [if_neg hc] at hk
    refine x_aload_n (i := 0) dX4_leaves_0 rfl rfl ?_
    refine x_getr (i := 0) dX4_leaves_1 rfl rfl rfl (by decide) fl_X4_10 inX4 ?_
    refine x_iload_n (i := 1) dX4_leaves_4 rfl rfl ?_
    refine x_v1i dX4_leaves_5 okX3_hasDriver ml_X4_111 (sT0 isT1) rfl (Nat.le_of_ble_eq_true rfl) ⟨by decide, by decide⟩ (Nat.le_of_ble_eq_true rfl) (c_X3_hasDriver isT1 hw _ ?_)
    refine x_ifneP (tgt := 18) dX4_leaves_8 rfl (fun h8 => ?_) (fun h8 => ?_)
    · exact absurd h8 hc
    · skip
      refine x_aload_n (i := 0) dX4_leaves_11 rfl rfl ?_
      refine x_ldc (v := -1000000001) dX4_leaves_12 kc_X4_52 ?_
      refine x_v1i dX4_leaves_14 okX4_tell ml_X4_53 rfl rfl (Nat.le_of_ble_eq_true rfl) ⟨by decide, by decide⟩ (Nat.le_of_ble_eq_true rfl) (c_X4_tell hS 0 (by decide) (by decide) (by decide) (fun τ hτ => ?_))
      exact x_ireti dX4_leaves_17 rfl (hk τ hτ)
theorem tw_back {σ : xH} {t p : Nat} {T : Tw} {v : Int32} (h : tw σ t (layT (layT T p v) p (nI 0))) (h1 : tTh T p = 0) (h2 : tAg T p = 0) : tw σ t T := by
  obtain ⟨g1, g2, g3, g4, g5, g6, g7, g8, g9, g10⟩ := h
  refine ⟨g1, g2, g3, fun i hi => (g4 i hi).trans ?_, fun i hi => (g5 i hi).trans ?_, g6, g7, g8, g9, g10⟩
  · by_cases e : i = p
    · subst e; rw [h1]; simp [layT, tTh, upd, nI_0]
    · simp [layT, tTh, upd, e]
  · by_cases e : i = p
    · subst e; rw [h2]; simp [layT, tAg, upd, nI_0]
    · simp [layT, tAg, upd, e]
theorem bR_some {S : St} {o : Bs} (h : 0 ≤ bI o) : bR S o = (bI o, S) := by
  match o, h with
  | none, h => exact absurd h (by decide)
  | some (b, w), _ => rfl
theorem bR_none {S : St} {o : Bs} (h : ¬ 0 ≤ bI o) (hb : ∀ b w, o = some (b, w) → b < 2 ^ 31) : bR S o = tellS S 3 := by
  match o, h with
  | none, _ => rfl
  | some (b, w), h => exact absurd (nI_pos' (hb b w rfl)) h
theorem bMin_t {p : Nat → Bool} {f : Nat → Int32} {i : Nat} (h : p i = true) : bMin p f (i + 1) = stMin (bMin p f i) i (f i) := by rw [bMin, if_pos h]
theorem bMin_f {p : Nat → Bool} {f : Nat → Int32} {i : Nat} (h : ¬ p i = true) : bMin p f (i + 1) = bMin p f i := by rw [bMin, if_neg h]
set_option maxHeartbeats 4000000 in
set_option maxRecDepth 20000 in
theorem l_X4_tame {K : Int32 → xH → Prop} {σ0 : xH} {S : St} (hS : cS σ0 S) (hO : tOk (gT S)) {d r : Nat} (hd : d < tN (gT S)) (hr : r < 3) (hk : ∀ τ, cS τ (bR S (bMin (fun i => decide (tTh (gT S) (r * 20 + i) = 0)) (fun i => pTop (layT (gT S) (r * 20 + i) (nI 1)) (tKd (gT S) d) (tWs (gT S) d) r) 20)).2 → K (bR S (bMin (fun i => decide (tTh (gT S) (r * 20 + i) = 0)) (fun i => pTop (layT (gT S) (r * 20 + i) (nI 1)) (tKd (gT S) d) (tWs (gT S) d) r) 20)).1 τ) : ∀ (n i : Nat) (σ : xH) (x : Int32) (y : Int32), i + n = 20 → (x = bI (bMin (fun i => decide (tTh (gT S) (r * 20 + i) = 0)) (fun i => pTop (layT (gT S) (r * 20 + i) (nI 1)) (tKd (gT S) d) (tWs (gT S) d) r) i)) → (y = bV (bMin (fun i => decide (tTh (gT S) (r * 20 + i) = 0)) (fun i => pTop (layT (gT S) (r * 20 + i) (nI 1)) (tKd (gT S) d) (tWs (gT S) d) r) i)) → (tw σ 13 (gT S)) → (fr 13 σ0 σ) → Ex l (oC ad D cy) mX4_tame 44 [some (.ref 0), some (.int (nI d)), some (.int (nI r)), some (.int x), some (.int y), some (.int (nI i)), none] [] σ (xQi K) := by
  intro n
  induction n with
  | zero =>
    intro i σ x y hi ex ey hw1 hf
    have hi : i = 20 := by omega
    subst hi
    subst ex ey
    refine x_iload (i := 5) dX4_tame_44 rfl ?_
    refine x_bipush (v := nI 20) dX4_tame_46 (by decide) ?_
    refine x_icgeN (tgt := 142) (by omega) (by omega) dX4_tame_48 rfl (fun h48 => ?_) (fun h48 => ?_)
    · skip
      refine x_iload_n (i := 3) dX4_tame_142 rfl rfl ?_
      refine x_ifge (tgt := 155) dX4_tame_143 rfl (fun h143 => ?_) (fun h143 => ?_)
      · skip
        refine x_iload_n (i := 3) dX4_tame_155 rfl rfl ?_
        exact x_ireti dX4_tame_156 rfl (by first | (rw [bR_some h143] at hk; exact hk σ (cS_13 hS hf)) | (rw [bR_none h143 (fun b w h => by have := bMin_b _ _ 20 b w h; omega)] at hk; exact hk τ hτ))
      · skip
        refine x_aload_n (i := 0) dX4_tame_146 rfl rfl ?_
        refine x_ldc (v := -1000000004) dX4_tame_147 kc_X4_160 ?_
        refine x_v1i dX4_tame_149 okX4_tell ml_X4_53 rfl rfl (Nat.le_of_ble_eq_true rfl) ⟨by decide, by decide⟩ (Nat.le_of_ble_eq_true rfl) (c_X4_tell (cS_13 hS hf) 3 (by decide) (by decide) (by decide) (fun τ hτ => ?_))
        refine x_goto (tgt := 156) dX4_tame_152 rfl ?_
        exact x_ireti dX4_tame_156 rfl (by first | (rw [bR_some h143] at hk; exact hk σ (cS_13 hS hf)) | (rw [bR_none h143 (fun b w h => by have := bMin_b _ _ 20 b w h; omega)] at hk; exact hk τ hτ))
    · exact absurd h48 (by omega)
  | succ n ih =>
    intro i σ x y hi ex ey hw1 hf
    subst ex ey
    have hP := (cS_13 hS hf).1
    have h8 := tw_8 hP
    refine x_iload (i := 5) dX4_tame_44 rfl ?_
    refine x_bipush (v := nI 20) dX4_tame_46 (by decide) ?_
    refine x_icgeN (tgt := 142) (by omega) (by omega) dX4_tame_48 rfl (fun h48 => ?_) (fun h48 => ?_)
    · exact absurd h48 (by omega)
    · skip
      refine x_aload_n (i := 0) dX4_tame_51 rfl rfl ?_
      refine x_getr (i := 0) dX4_tame_52 rfl rfl rfl (by decide) fl_X4_10 inX4 ?_
      refine x_getr (i := 3) dX4_tame_55 (sT0 isT1) rfl rfl (by decide) fl_X4_57 inX3 ?_
      refine x_iload_n (i := 2) dX4_tame_58 rfl rfl ?_
      refine x_iload (i := 5) dX4_tame_59 rfl ?_
      refine x_s2i dX4_tame_61 okX4_placeOf ml_X4_60 (Nat.le_of_ble_eq_true rfl) ⟨by decide, by decide⟩ (Nat.le_of_ble_eq_true rfl) (c_X4_placeOf _ _ ?_)
      refine x_ialdE dX4_tame_64 (sT1 isT1) (by omega) (by decide) (tw_th hP (by omega)) ?_
      refine x_ifne (tgt := 136) dX4_tame_65 rfl (fun h65 => ?_) (fun h65 => ?_)
      · skip
        refine y_iincN (i := 5) (ls2 := [_, _, _, _, _, _, _]) dX4_tame_136 rfl (by decide) rfl rfl ?_
        refine x_goto (tgt := 44) dX4_tame_139 rfl ?_
        have e1 : bMin (fun i => decide (tTh (gT S) (r * 20 + i) = 0)) (fun i => pTop (layT (gT S) (r * 20 + i) (nI 1)) (tKd (gT S) d) (tWs (gT S) d) r) (i + 1) = bMin (fun i => decide (tTh (gT S) (r * 20 + i) = 0)) (fun i => pTop (layT (gT S) (r * 20 + i) (nI 1)) (tKd (gT S) d) (tWs (gT S) d) r) i := bMin_f (by simpa using h65)
        exact ih (i + 1) _ _ _ (by omega) (by rw [e1]) (by rw [e1]) hw1 hf
      · skip
        refine x_aload_n (i := 0) dX4_tame_68 rfl rfl ?_
        refine x_getr (i := 2) dX4_tame_69 rfl rfl rfl (by decide) fl_X4_19 inX4 ?_
        refine x_iload_n (i := 2) dX4_tame_72 rfl rfl ?_
        refine x_iload (i := 5) dX4_tame_73 rfl ?_
        refine x_iconstN (n := 1) dX4_tame_75 ?_
        refine x_v3v dX4_tame_76 okX3_lay ml_X4_64 (sT0 isT13) rfl (Nat.le_of_ble_eq_true rfl) ⟨by decide, by decide⟩ (Nat.le_of_ble_eq_true rfl) (c_X3_lay isT13 hw1 hr (by omega) _ (fun τ hw2 hf2 => ?_))
        refine x_aload_n (i := 0) dX4_tame_79 rfl rfl ?_
        refine x_getr (i := 2) dX4_tame_80 rfl rfl rfl (by decide) fl_X4_19 inX4 ?_
        refine x_aload_n (i := 0) dX4_tame_83 rfl rfl ?_
        refine x_getr (i := 0) dX4_tame_84 rfl rfl rfl (by decide) fl_X4_10 inX4 ?_
        refine x_getr (i := 5) dX4_tame_87 (sT0 isT1) rfl rfl (by decide) fl_X4_114 inX3 ?_
        refine x_iload_n (i := 1) dX4_tame_90 rfl rfl ?_
        refine x_ialdE dX4_tame_91 (sT3 isT1) (by omega) (by decide) (tw_kd (tw_fr hP hf2 (by omega)) hd) ?_
        refine x_aload_n (i := 0) dX4_tame_92 rfl rfl ?_
        refine x_getr (i := 0) dX4_tame_93 rfl rfl rfl (by decide) fl_X4_10 inX4 ?_
        refine x_getr (i := 6) dX4_tame_96 (sT0 isT1) rfl rfl (by decide) fl_X4_117 inX3 ?_
        refine x_iload_n (i := 1) dX4_tame_99 rfl rfl ?_
        refine x_ialdE dX4_tame_100 (sT4 isT1) (by omega) (by decide) (tw_ws (tw_fr hP hf2 (by omega)) hd) ?_
        refine x_iload_n (i := 2) dX4_tame_101 rfl rfl ?_
        refine x_v3i dX4_tame_102 okX3_topPace ml_X4_161 (sT0 isT13) rfl (Nat.le_of_ble_eq_true rfl) ⟨by decide, by decide⟩ (Nat.le_of_ble_eq_true rfl) (c_X3_topPace isT13 hw2 _ _ hr ?_)
        refine y_istore (i := 6) (ls2 := [_, _, _, _, _, _, _]) dX4_tame_105 (by decide) rfl rfl ?_
        refine x_aload_n (i := 0) dX4_tame_107 rfl rfl ?_
        refine x_getr (i := 2) dX4_tame_108 rfl rfl rfl (by decide) fl_X4_19 inX4 ?_
        refine x_iload_n (i := 2) dX4_tame_111 rfl rfl ?_
        refine x_iload (i := 5) dX4_tame_112 rfl ?_
        refine x_iconstN (n := 0) dX4_tame_114 ?_
        refine x_v3v dX4_tame_115 okX3_lay ml_X4_64 (sT0 isT13) rfl (Nat.le_of_ble_eq_true rfl) ⟨by decide, by decide⟩ (Nat.le_of_ble_eq_true rfl) (c_X3_lay isT13 hw2 hr (by omega) _ (fun υ hw3 hf3 => ?_))
        refine x_iload_n (i := 3) dX4_tame_118 rfl rfl ?_
        refine x_iflt (tgt := 129) dX4_tame_119 rfl (fun h119 => ?_) (fun h119 => ?_)
        · skip
          refine x_iload (i := 5) dX4_tame_129 rfl ?_
          refine y_istore_n (i := 3) (ls2 := [_, _, _, _, _, _, _]) dX4_tame_131 rfl (by decide) rfl rfl ?_
          refine x_iload (i := 6) dX4_tame_132 rfl ?_
          refine y_istore (i := 4) (ls2 := [_, _, _, _, _, _, _]) dX4_tame_134 (by decide) rfl rfl ?_
          refine y_iincN (i := 5) (ls2 := [_, _, _, _, _, _, _]) dX4_tame_136 rfl (by decide) rfl rfl ?_
          refine x_goto (tgt := 44) dX4_tame_139 rfl ?_
          have e0 : bMin (fun i => decide (tTh (gT S) (r * 20 + i) = 0)) (fun i => pTop (layT (gT S) (r * 20 + i) (nI 1)) (tKd (gT S) d) (tWs (gT S) d) r) (i + 1) = stMin (bMin (fun i => decide (tTh (gT S) (r * 20 + i) = 0)) (fun i => pTop (layT (gT S) (r * 20 + i) (nI 1)) (tKd (gT S) d) (tWs (gT S) d) r) i) i ((fun i => pTop (layT (gT S) (r * 20 + i) (nI 1)) (tKd (gT S) d) (tWs (gT S) d) r) i) := bMin_t (by simpa using h65)
          have e1 := e0.trans (stMin_lt (i := i) (v := (fun i => pTop (layT (gT S) (r * 20 + i) (nI 1)) (tKd (gT S) d) (tWs (gT S) d) r) i) h119 (fun b w h => by have := bMin_b (fun i => decide (tTh (gT S) (r * 20 + i) = 0)) (fun i => pTop (layT (gT S) (r * 20 + i) (nI 1)) (tKd (gT S) d) (tWs (gT S) d) r) i b w h; omega))
          obtain ⟨ag, -, ea, eb⟩ := hO.2.2.2.2.1 (r * 20 + i) (by omega)
          have ea : tAg (gT S) (r * 20 + i) = 0 := by rw [ea, eb (by rw [h65]; decide)]; rfl
          exact x_mask [true, true, true, true, true, true, false] <| ih (i + 1) _ _ _ (by omega) (by rw [e1]; rfl) (by rw [e1]; rfl) (tw_back hw3 h65 ea) (fr_tr hf (fr_tr hf2 hf3))
        · skip
          refine x_iload (i := 6) dX4_tame_122 rfl ?_
          refine x_iload (i := 4) dX4_tame_124 rfl ?_
          refine x_icge (tgt := 136) dX4_tame_126 rfl (fun h126 => ?_) (fun h126 => ?_)
          · skip
            refine y_iincN (i := 5) (ls2 := [_, _, _, _, _, _, _]) dX4_tame_136 rfl (by decide) rfl rfl ?_
            refine x_goto (tgt := 44) dX4_tame_139 rfl ?_
            have e0 : bMin (fun i => decide (tTh (gT S) (r * 20 + i) = 0)) (fun i => pTop (layT (gT S) (r * 20 + i) (nI 1)) (tKd (gT S) d) (tWs (gT S) d) r) (i + 1) = stMin (bMin (fun i => decide (tTh (gT S) (r * 20 + i) = 0)) (fun i => pTop (layT (gT S) (r * 20 + i) (nI 1)) (tKd (gT S) d) (tWs (gT S) d) r) i) i ((fun i => pTop (layT (gT S) (r * 20 + i) (nI 1)) (tKd (gT S) d) (tWs (gT S) d) r) i) := bMin_t (by simpa using h65)
            have e1 := e0.trans (stMin_ge (i := i) (v := (fun i => pTop (layT (gT S) (r * 20 + i) (nI 1)) (tKd (gT S) d) (tWs (gT S) d) r) i) h119 h126)
            obtain ⟨ag, -, ea, eb⟩ := hO.2.2.2.2.1 (r * 20 + i) (by omega)
            have ea : tAg (gT S) (r * 20 + i) = 0 := by rw [ea, eb (by rw [h65]; decide)]; rfl
            exact x_mask [true, true, true, true, true, true, false] <| ih (i + 1) _ _ _ (by omega) (by rw [e1]) (by rw [e1]) (tw_back hw3 h65 ea) (fr_tr hf (fr_tr hf2 hf3))
          · skip
            refine x_iload (i := 5) dX4_tame_129 rfl ?_
            refine y_istore_n (i := 3) (ls2 := [_, _, _, _, _, _, _]) dX4_tame_131 rfl (by decide) rfl rfl ?_
            refine x_iload (i := 6) dX4_tame_132 rfl ?_
            refine y_istore (i := 4) (ls2 := [_, _, _, _, _, _, _]) dX4_tame_134 (by decide) rfl rfl ?_
            refine y_iincN (i := 5) (ls2 := [_, _, _, _, _, _, _]) dX4_tame_136 rfl (by decide) rfl rfl ?_
            refine x_goto (tgt := 44) dX4_tame_139 rfl ?_
            have e0 : bMin (fun i => decide (tTh (gT S) (r * 20 + i) = 0)) (fun i => pTop (layT (gT S) (r * 20 + i) (nI 1)) (tKd (gT S) d) (tWs (gT S) d) r) (i + 1) = stMin (bMin (fun i => decide (tTh (gT S) (r * 20 + i) = 0)) (fun i => pTop (layT (gT S) (r * 20 + i) (nI 1)) (tKd (gT S) d) (tWs (gT S) d) r) i) i ((fun i => pTop (layT (gT S) (r * 20 + i) (nI 1)) (tKd (gT S) d) (tWs (gT S) d) r) i) := bMin_t (by simpa using h65)
            have e1 := e0.trans (stMin_up (i := i) (v := (fun i => pTop (layT (gT S) (r * 20 + i) (nI 1)) (tKd (gT S) d) (tWs (gT S) d) r) i) h119 h126)
            obtain ⟨ag, -, ea, eb⟩ := hO.2.2.2.2.1 (r * 20 + i) (by omega)
            have ea : tAg (gT S) (r * 20 + i) = 0 := by rw [ea, eb (by rw [h65]; decide)]; rfl
            exact x_mask [true, true, true, true, true, true, false] <| ih (i + 1) _ _ _ (by omega) (by rw [e1]; rfl) (by rw [e1]; rfl) (tw_back hw3 h65 ea) (fr_tr hf (fr_tr hf2 hf3))
set_option maxHeartbeats 4000000 in
set_option maxRecDepth 20000 in
theorem c_X4_tame {σ : xH} {K : Int32 → xH → Prop} {S : St} (hS : cS σ S) (hO : tOk (gT S)) (d a : Int32) (hk : ∀ τ, cS τ (oTame S d a).2 → K (oTame S d a).1 τ) : Evi l (oC ad D cy) mX4_tame [.ref 0, .int d, .int a] σ K := by
  have hw := hS.1
  have h8 := tw_8 hw
  refine x_enter (ls := [some (.ref 0), some (.int d), some (.int a), none, none, none, none]) rfl ?_
  by_cases hc : vN (tN (gT S)) d ∧ vN 3 a
  · unfold oTame at hk
    rw [if_pos hc] at hk
    obtain ⟨d, hd, rfl⟩ := vN_of hc.1 (by omega)
    have hg := tw_g3 hw hd
    have h8d : d < 2 ^ 31 := by omega
    simp only [cn, nI_clamp h8d] at hk
    obtain ⟨r, hr, rfl⟩ := vN_of hc.2 (by decide)
    simp only [nI_clamp (show r < 2 ^ 31 by omega)] at hk
    refine x_aload_n (i := 0) dX4_tame_0 rfl rfl ?_
    refine x_getr (i := 0) dX4_tame_1 rfl rfl rfl (by decide) fl_X4_10 inX4 ?_
    refine x_iload_n (i := 1) dX4_tame_4 rfl rfl ?_
    refine x_v1i dX4_tame_5 okX3_hasDriver ml_X4_111 (sT0 isT1) rfl (Nat.le_of_ble_eq_true rfl) ⟨by decide, by decide⟩ (Nat.le_of_ble_eq_true rfl) (c_X3_hasDriver isT1 hw _ ?_)
    refine x_ifeqP (tgt := 18) dX4_tame_8 rfl (fun h8 => ?_) (fun h8 => ?_)
    · exact absurd hc.1 h8
    · skip
      refine x_iload_n (i := 2) dX4_tame_11 rfl rfl ?_
      refine x_s1i dX4_tame_12 okX4_isStreet ml_X4_75 (Nat.le_of_ble_eq_true rfl) ⟨by decide, by decide⟩ (Nat.le_of_ble_eq_true rfl) (c_X4_isStreet _ ?_)
      refine x_ifneP (tgt := 25) dX4_tame_15 rfl (fun h15 => ?_) (fun h15 => ?_)
      · skip
        refine x_iconst (v := -1) dX4_tame_25 (by decide) ?_
        refine y_istore_n (i := 3) (ls2 := [_, _, _, _, _, _, _]) dX4_tame_26 rfl (by decide) rfl rfl ?_
        refine x_iconstN (n := 0) dX4_tame_27 ?_
        refine y_istore (i := 4) (ls2 := [_, _, _, _, _, _, _]) dX4_tame_28 (by decide) rfl rfl ?_
        refine x_aload_n (i := 0) dX4_tame_30 rfl rfl ?_
        refine x_getr (i := 2) dX4_tame_31 rfl rfl rfl (by decide) fl_X4_19 inX4 ?_
        refine x_aload_n (i := 0) dX4_tame_34 rfl rfl ?_
        refine x_getr (i := 0) dX4_tame_35 rfl rfl rfl (by decide) fl_X4_10 inX4 ?_
        refine x_v1v dX4_tame_38 okX3_becomeLike ml_X4_152 (sT0 isT13) rfl (Nat.le_of_ble_eq_true rfl) ⟨by decide, by decide⟩ (Nat.le_of_ble_eq_true rfl) (c_X3_becomeLike isT13 isT1 hw (by omega) (fun τ hw1 hf1 => ?_))
        refine x_iconstN (n := 0) dX4_tame_41 ?_
        refine y_istore (i := 5) (ls2 := [_, _, _, _, _, _, _]) dX4_tame_42 (by decide) rfl rfl ?_
        exact l_X4_tame hS hO hd hr hk 20 0 τ _ _ rfl rfl rfl hw1 hf1
      · exact absurd hc.2 h15
  · unfold oTame at hk
    rw [if_neg hc] at hk
    refine x_aload_n (i := 0) dX4_tame_0 rfl rfl ?_
    refine x_getr (i := 0) dX4_tame_1 rfl rfl rfl (by decide) fl_X4_10 inX4 ?_
    refine x_iload_n (i := 1) dX4_tame_4 rfl rfl ?_
    refine x_v1i dX4_tame_5 okX3_hasDriver ml_X4_111 (sT0 isT1) rfl (Nat.le_of_ble_eq_true rfl) ⟨by decide, by decide⟩ (Nat.le_of_ble_eq_true rfl) (c_X3_hasDriver isT1 hw _ ?_)
    refine x_ifeqP (tgt := 18) dX4_tame_8 rfl (fun h8 => ?_) (fun h8 => ?_)
    · skip
      refine x_aload_n (i := 0) dX4_tame_18 rfl rfl ?_
      refine x_ldc (v := -1000000001) dX4_tame_19 kc_X4_52 ?_
      refine x_v1i dX4_tame_21 okX4_tell ml_X4_53 rfl rfl (Nat.le_of_ble_eq_true rfl) ⟨by decide, by decide⟩ (Nat.le_of_ble_eq_true rfl) (c_X4_tell hS 0 (by decide) (by decide) (by decide) (fun τ hτ => ?_))
      exact x_ireti dX4_tame_24 rfl (hk τ hτ)
    · skip
      refine x_iload_n (i := 2) dX4_tame_11 rfl rfl ?_
      refine x_s1i dX4_tame_12 okX4_isStreet ml_X4_75 (Nat.le_of_ble_eq_true rfl) ⟨by decide, by decide⟩ (Nat.le_of_ble_eq_true rfl) (c_X4_isStreet _ ?_)
      refine x_ifneP (tgt := 25) dX4_tame_15 rfl (fun h15 => ?_) (fun h15 => ?_)
      · exact absurd ⟨h8, h15⟩ hc
      · skip
        refine x_aload_n (i := 0) dX4_tame_18 rfl rfl ?_
        refine x_ldc (v := -1000000001) dX4_tame_19 kc_X4_52 ?_
        refine x_v1i dX4_tame_21 okX4_tell ml_X4_53 rfl rfl (Nat.le_of_ble_eq_true rfl) ⟨by decide, by decide⟩ (Nat.le_of_ble_eq_true rfl) (c_X4_tell hS 0 (by decide) (by decide) (by decide) (fun τ hτ => ?_))
        exact x_ireti dX4_tame_24 rfl (hk τ hτ)
set_option maxHeartbeats 4000000 in
set_option maxRecDepth 20000 in
theorem l_X4_clear {K : Int32 → xH → Prop} {σ0 : xH} {S : St} (hS : cS σ0 S) {r m : Nat} (hr : r < 3) (hm : m ≤ 100) (hk : ∀ τ, cS τ (bR S (bMin (fun i => !decide (tTh (gT S) (r * 20 + i) = 0)) (fun i => pShAll (daysC (layT (gT S) (r * 20 + i) (nI 0)) m)) 20)).2 → K (bR S (bMin (fun i => !decide (tTh (gT S) (r * 20 + i) = 0)) (fun i => pShAll (daysC (layT (gT S) (r * 20 + i) (nI 0)) m)) 20)).1 τ) : ∀ (n i : Nat) (σ : xH) (x : Int32) (y : Int32), i + n = 20 → (x = bI (bMin (fun i => !decide (tTh (gT S) (r * 20 + i) = 0)) (fun i => pShAll (daysC (layT (gT S) (r * 20 + i) (nI 0)) m)) i)) → (y = bV (bMin (fun i => !decide (tTh (gT S) (r * 20 + i) = 0)) (fun i => pShAll (daysC (layT (gT S) (r * 20 + i) (nI 0)) m)) i)) → (fr 13 σ0 σ) → Ex l (oC ad D cy) mX4_clear 32 [some (.ref 0), some (.int (nI r)), some (.int (nI m)), some (.int x), some (.int y), some (.int (nI i)), none] [] σ (xQi K) := by
  intro n
  induction n with
  | zero =>
    intro i σ x y hi ex ey hf
    have hi : i = 20 := by omega
    subst hi
    subst ex ey
    refine x_iload (i := 5) dX4_clear_32 rfl ?_
    refine x_bipush (v := nI 20) dX4_clear_34 (by decide) ?_
    refine x_icgeN (tgt := 119) (by omega) (by omega) dX4_clear_36 rfl (fun h36 => ?_) (fun h36 => ?_)
    · skip
      refine x_iload_n (i := 3) dX4_clear_119 rfl rfl ?_
      refine x_ifge (tgt := 132) dX4_clear_120 rfl (fun h120 => ?_) (fun h120 => ?_)
      · skip
        refine x_iload_n (i := 3) dX4_clear_132 rfl rfl ?_
        exact x_ireti dX4_clear_133 rfl (by first | (rw [bR_some h120] at hk; exact hk σ (cS_13 hS hf)) | (rw [bR_none h120 (fun b w h => by have := bMin_b _ _ 20 b w h; omega)] at hk; exact hk τ hτ))
      · skip
        refine x_aload_n (i := 0) dX4_clear_123 rfl rfl ?_
        refine x_ldc (v := -1000000004) dX4_clear_124 kc_X4_160 ?_
        refine x_v1i dX4_clear_126 okX4_tell ml_X4_53 rfl rfl (Nat.le_of_ble_eq_true rfl) ⟨by decide, by decide⟩ (Nat.le_of_ble_eq_true rfl) (c_X4_tell (cS_13 hS hf) 3 (by decide) (by decide) (by decide) (fun τ hτ => ?_))
        refine x_goto (tgt := 133) dX4_clear_129 rfl ?_
        exact x_ireti dX4_clear_133 rfl (by first | (rw [bR_some h120] at hk; exact hk σ (cS_13 hS hf)) | (rw [bR_none h120 (fun b w h => by have := bMin_b _ _ 20 b w h; omega)] at hk; exact hk τ hτ))
    · exact absurd h36 (by omega)
  | succ n ih =>
    intro i σ x y hi ex ey hf
    subst ex ey
    have hP := (cS_13 hS hf).1
    refine x_iload (i := 5) dX4_clear_32 rfl ?_
    refine x_bipush (v := nI 20) dX4_clear_34 (by decide) ?_
    refine x_icgeN (tgt := 119) (by omega) (by omega) dX4_clear_36 rfl (fun h36 => ?_) (fun h36 => ?_)
    · exact absurd h36 (by omega)
    · skip
      refine x_aload_n (i := 0) dX4_clear_39 rfl rfl ?_
      refine x_getr (i := 0) dX4_clear_40 rfl rfl rfl (by decide) fl_X4_10 inX4 ?_
      refine x_getr (i := 3) dX4_clear_43 (sT0 isT1) rfl rfl (by decide) fl_X4_57 inX3 ?_
      refine x_iload_n (i := 1) dX4_clear_46 rfl rfl ?_
      refine x_iload (i := 5) dX4_clear_47 rfl ?_
      refine x_s2i dX4_clear_49 okX4_placeOf ml_X4_60 (Nat.le_of_ble_eq_true rfl) ⟨by decide, by decide⟩ (Nat.le_of_ble_eq_true rfl) (c_X4_placeOf _ _ ?_)
      refine x_ialdE dX4_clear_52 (sT1 isT1) (by omega) (by decide) (tw_th hP (by omega)) ?_
      refine x_ifeq (tgt := 113) dX4_clear_53 rfl (fun h53 => ?_) (fun h53 => ?_)
      · skip
        refine y_iincN (i := 5) (ls2 := [_, _, _, _, _, _, _]) dX4_clear_113 rfl (by decide) rfl rfl ?_
        refine x_goto (tgt := 32) dX4_clear_116 rfl ?_
        have e1 : bMin (fun i => !decide (tTh (gT S) (r * 20 + i) = 0)) (fun i => pShAll (daysC (layT (gT S) (r * 20 + i) (nI 0)) m)) (i + 1) = bMin (fun i => !decide (tTh (gT S) (r * 20 + i) = 0)) (fun i => pShAll (daysC (layT (gT S) (r * 20 + i) (nI 0)) m)) i := bMin_f (by simpa using h53)
        exact ih (i + 1) _ _ _ (by omega) (by rw [e1]) (by rw [e1]) hf
      · skip
        refine x_aload_n (i := 0) dX4_clear_56 rfl rfl ?_
        refine x_getr (i := 2) dX4_clear_57 rfl rfl rfl (by decide) fl_X4_19 inX4 ?_
        refine x_aload_n (i := 0) dX4_clear_60 rfl rfl ?_
        refine x_getr (i := 0) dX4_clear_61 rfl rfl rfl (by decide) fl_X4_10 inX4 ?_
        refine x_v1v dX4_clear_64 okX3_becomeLike ml_X4_152 (sT0 isT13) rfl (Nat.le_of_ble_eq_true rfl) ⟨by decide, by decide⟩ (Nat.le_of_ble_eq_true rfl) (c_X3_becomeLike isT13 isT1 hP (by omega) (fun τ1 hw1 hf1 => ?_))
        refine x_aload_n (i := 0) dX4_clear_67 rfl rfl ?_
        refine x_getr (i := 2) dX4_clear_68 rfl rfl rfl (by decide) fl_X4_19 inX4 ?_
        refine x_iload_n (i := 1) dX4_clear_71 rfl rfl ?_
        refine x_iload (i := 5) dX4_clear_72 rfl ?_
        refine x_iconstN (n := 0) dX4_clear_74 ?_
        refine x_v3v dX4_clear_75 okX3_lay ml_X4_64 (sT0 isT13) rfl (Nat.le_of_ble_eq_true rfl) ⟨by decide, by decide⟩ (Nat.le_of_ble_eq_true rfl) (c_X3_lay isT13 hw1 hr (by omega) _ (fun τ2 hw2 hf2 => ?_))
        refine x_aload_n (i := 0) dX4_clear_78 rfl rfl ?_
        refine x_getr (i := 2) dX4_clear_79 rfl rfl rfl (by decide) fl_X4_19 inX4 ?_
        refine x_iload_n (i := 2) dX4_clear_82 rfl rfl ?_
        refine x_v1v dX4_clear_83 okX3_letDaysGo ml_X4_148 (sT0 isT13) rfl (Nat.le_of_ble_eq_true rfl) ⟨by decide, by decide⟩ (Nat.le_of_ble_eq_true rfl) (c_X3_letDaysGo isT13 hw2 hm (fun τ3 hw3 hf3 => ?_))
        refine x_aload_n (i := 0) dX4_clear_86 rfl rfl ?_
        refine x_getr (i := 2) dX4_clear_87 rfl rfl rfl (by decide) fl_X4_19 inX4 ?_
        refine x_v0i dX4_clear_90 okX3_shakingOfAll ml_X4_94 (sT0 isT13) rfl (Nat.le_of_ble_eq_true rfl) ⟨by decide, by decide⟩ (Nat.le_of_ble_eq_true rfl) (c_X3_shakingOfAll isT13 hw3 ?_)
        refine y_istore (i := 6) (ls2 := [_, _, _, _, _, _, _]) dX4_clear_93 (by decide) rfl rfl ?_
        refine x_iload_n (i := 3) dX4_clear_95 rfl rfl ?_
        refine x_iflt (tgt := 106) dX4_clear_96 rfl (fun h96 => ?_) (fun h96 => ?_)
        · skip
          refine x_iload (i := 5) dX4_clear_106 rfl ?_
          refine y_istore_n (i := 3) (ls2 := [_, _, _, _, _, _, _]) dX4_clear_108 rfl (by decide) rfl rfl ?_
          refine x_iload (i := 6) dX4_clear_109 rfl ?_
          refine y_istore (i := 4) (ls2 := [_, _, _, _, _, _, _]) dX4_clear_111 (by decide) rfl rfl ?_
          refine y_iincN (i := 5) (ls2 := [_, _, _, _, _, _, _]) dX4_clear_113 rfl (by decide) rfl rfl ?_
          refine x_goto (tgt := 32) dX4_clear_116 rfl ?_
          have e0 : bMin (fun i => !decide (tTh (gT S) (r * 20 + i) = 0)) (fun i => pShAll (daysC (layT (gT S) (r * 20 + i) (nI 0)) m)) (i + 1) = stMin (bMin (fun i => !decide (tTh (gT S) (r * 20 + i) = 0)) (fun i => pShAll (daysC (layT (gT S) (r * 20 + i) (nI 0)) m)) i) i ((fun i => pShAll (daysC (layT (gT S) (r * 20 + i) (nI 0)) m)) i) := bMin_t (by simpa using h53)
          have e1 := e0.trans (stMin_lt (i := i) (v := (fun i => pShAll (daysC (layT (gT S) (r * 20 + i) (nI 0)) m)) i) h96 (fun b w h => by have := bMin_b (fun i => !decide (tTh (gT S) (r * 20 + i) = 0)) (fun i => pShAll (daysC (layT (gT S) (r * 20 + i) (nI 0)) m)) i b w h; omega))
          exact x_mask [true, true, true, true, true, true, false] <| ih (i + 1) _ _ _ (by omega) (by rw [e1]; rfl) (by rw [e1]; rfl) (fr_tr hf (fr_tr hf1 (fr_tr hf2 hf3)))
        · skip
          refine x_iload (i := 6) dX4_clear_99 rfl ?_
          refine x_iload (i := 4) dX4_clear_101 rfl ?_
          refine x_icge (tgt := 113) dX4_clear_103 rfl (fun h103 => ?_) (fun h103 => ?_)
          · skip
            refine y_iincN (i := 5) (ls2 := [_, _, _, _, _, _, _]) dX4_clear_113 rfl (by decide) rfl rfl ?_
            refine x_goto (tgt := 32) dX4_clear_116 rfl ?_
            have e0 : bMin (fun i => !decide (tTh (gT S) (r * 20 + i) = 0)) (fun i => pShAll (daysC (layT (gT S) (r * 20 + i) (nI 0)) m)) (i + 1) = stMin (bMin (fun i => !decide (tTh (gT S) (r * 20 + i) = 0)) (fun i => pShAll (daysC (layT (gT S) (r * 20 + i) (nI 0)) m)) i) i ((fun i => pShAll (daysC (layT (gT S) (r * 20 + i) (nI 0)) m)) i) := bMin_t (by simpa using h53)
            have e1 := e0.trans (stMin_ge (i := i) (v := (fun i => pShAll (daysC (layT (gT S) (r * 20 + i) (nI 0)) m)) i) h96 h103)
            exact x_mask [true, true, true, true, true, true, false] <| ih (i + 1) _ _ _ (by omega) (by rw [e1]) (by rw [e1]) (fr_tr hf (fr_tr hf1 (fr_tr hf2 hf3)))
          · skip
            refine x_iload (i := 5) dX4_clear_106 rfl ?_
            refine y_istore_n (i := 3) (ls2 := [_, _, _, _, _, _, _]) dX4_clear_108 rfl (by decide) rfl rfl ?_
            refine x_iload (i := 6) dX4_clear_109 rfl ?_
            refine y_istore (i := 4) (ls2 := [_, _, _, _, _, _, _]) dX4_clear_111 (by decide) rfl rfl ?_
            refine y_iincN (i := 5) (ls2 := [_, _, _, _, _, _, _]) dX4_clear_113 rfl (by decide) rfl rfl ?_
            refine x_goto (tgt := 32) dX4_clear_116 rfl ?_
            have e0 : bMin (fun i => !decide (tTh (gT S) (r * 20 + i) = 0)) (fun i => pShAll (daysC (layT (gT S) (r * 20 + i) (nI 0)) m)) (i + 1) = stMin (bMin (fun i => !decide (tTh (gT S) (r * 20 + i) = 0)) (fun i => pShAll (daysC (layT (gT S) (r * 20 + i) (nI 0)) m)) i) i ((fun i => pShAll (daysC (layT (gT S) (r * 20 + i) (nI 0)) m)) i) := bMin_t (by simpa using h53)
            have e1 := e0.trans (stMin_up (i := i) (v := (fun i => pShAll (daysC (layT (gT S) (r * 20 + i) (nI 0)) m)) i) h96 h103)
            exact x_mask [true, true, true, true, true, true, false] <| ih (i + 1) _ _ _ (by omega) (by rw [e1]; rfl) (by rw [e1]; rfl) (fr_tr hf (fr_tr hf1 (fr_tr hf2 hf3)))
set_option maxHeartbeats 4000000 in
set_option maxRecDepth 20000 in
theorem c_X4_clear {σ : xH} {K : Int32 → xH → Prop} {S : St} (hS : cS σ S) (a m : Int32) (hk : ∀ τ, cS τ (oClear S a m).2 → K (oClear S a m).1 τ) : Evi l (oC ad D cy) mX4_clear [.ref 0, .int a, .int m] σ K := by
  have hw := hS.1
  have h8 := tw_8 hw
  refine x_enter (ls := [some (.ref 0), some (.int a), some (.int m), none, none, none, none]) rfl ?_
  by_cases hc : vN 3 a ∧ vR (nI 0) (nI 20) m
  · unfold oClear at hk
    rw [if_pos hc] at hk
    obtain ⟨r, hr, rfl⟩ := vN_of hc.1 (by decide)
    obtain ⟨m, hm0, hm, rfl⟩ := vR_of hc.2 (by decide) (by decide)
    simp only [cn, nI_clamp (show r < 2 ^ 31 by omega), nI_clamp (show m < 2 ^ 31 by omega)] at hk
    refine x_iload_n (i := 1) dX4_clear_0 rfl rfl ?_
    refine x_s1i dX4_clear_1 okX4_isStreet ml_X4_75 (Nat.le_of_ble_eq_true rfl) ⟨by decide, by decide⟩ (Nat.le_of_ble_eq_true rfl) (c_X4_isStreet _ ?_)
    refine x_ifeqP (tgt := 17) dX4_clear_4 rfl (fun h4 => ?_) (fun h4 => ?_)
    · exact absurd hc.1 h4
    · skip
      refine x_iload_n (i := 2) dX4_clear_7 rfl rfl ?_
      refine x_iconstN (n := 0) dX4_clear_8 ?_
      refine x_bipush (v := nI 20) dX4_clear_9 (by decide) ?_
      refine x_s3i dX4_clear_11 okX4_isWithin ml_X4_48 (Nat.le_of_ble_eq_true rfl) ⟨by decide, by decide⟩ (Nat.le_of_ble_eq_true rfl) (c_X4_isWithin _ _ _ ?_)
      refine x_ifneP (tgt := 24) dX4_clear_14 rfl (fun h14 => ?_) (fun h14 => ?_)
      · skip
        refine x_iconst (v := -1) dX4_clear_24 (by decide) ?_
        refine y_istore_n (i := 3) (ls2 := [_, _, _, _, _, _, _]) dX4_clear_25 rfl (by decide) rfl rfl ?_
        refine x_iconstN (n := 0) dX4_clear_26 ?_
        refine y_istore (i := 4) (ls2 := [_, _, _, _, _, _, _]) dX4_clear_27 (by decide) rfl rfl ?_
        refine x_iconstN (n := 0) dX4_clear_29 ?_
        refine y_istore (i := 5) (ls2 := [_, _, _, _, _, _, _]) dX4_clear_30 (by decide) rfl rfl ?_
        exact l_X4_clear hS hr (by omega) hk 20 0 σ _ _ rfl rfl rfl (fr_rf 13 σ)
      · exact absurd hc.2 h14
  · unfold oClear at hk
    rw [if_neg hc] at hk
    refine x_iload_n (i := 1) dX4_clear_0 rfl rfl ?_
    refine x_s1i dX4_clear_1 okX4_isStreet ml_X4_75 (Nat.le_of_ble_eq_true rfl) ⟨by decide, by decide⟩ (Nat.le_of_ble_eq_true rfl) (c_X4_isStreet _ ?_)
    refine x_ifeqP (tgt := 17) dX4_clear_4 rfl (fun h4 => ?_) (fun h4 => ?_)
    · skip
      refine x_aload_n (i := 0) dX4_clear_17 rfl rfl ?_
      refine x_ldc (v := -1000000001) dX4_clear_18 kc_X4_52 ?_
      refine x_v1i dX4_clear_20 okX4_tell ml_X4_53 rfl rfl (Nat.le_of_ble_eq_true rfl) ⟨by decide, by decide⟩ (Nat.le_of_ble_eq_true rfl) (c_X4_tell hS 0 (by decide) (by decide) (by decide) (fun τ hτ => ?_))
      exact x_ireti dX4_clear_23 rfl (hk τ hτ)
    · skip
      refine x_iload_n (i := 2) dX4_clear_7 rfl rfl ?_
      refine x_iconstN (n := 0) dX4_clear_8 ?_
      refine x_bipush (v := nI 20) dX4_clear_9 (by decide) ?_
      refine x_s3i dX4_clear_11 okX4_isWithin ml_X4_48 (Nat.le_of_ble_eq_true rfl) ⟨by decide, by decide⟩ (Nat.le_of_ble_eq_true rfl) (c_X4_isWithin _ _ _ ?_)
      refine x_ifneP (tgt := 24) dX4_clear_14 rfl (fun h14 => ?_) (fun h14 => ?_)
      · exact absurd ⟨h4, h14⟩ hc
      · skip
        refine x_aload_n (i := 0) dX4_clear_17 rfl rfl ?_
        refine x_ldc (v := -1000000001) dX4_clear_18 kc_X4_52 ?_
        refine x_v1i dX4_clear_20 okX4_tell ml_X4_53 rfl rfl (Nat.le_of_ble_eq_true rfl) ⟨by decide, by decide⟩ (Nat.le_of_ble_eq_true rfl) (c_X4_tell hS 0 (by decide) (by decide) (by decide) (fun τ hτ => ?_))
        exact x_ireti dX4_clear_23 rfl (hk τ hτ)
end
