section
variable {l : Launch} {ad : Nat → Nat} {D : va_G} {cy : Nat → ClassId}
/-! THE TEXT: tokens of L bytes b, from a place on -/
def isSp (x : Int32) : Bool := decide (x = nI 32)
def isLt (x : Int32) : Bool := decide (vR (nI 97) (nI 122) x)
def isDg (x : Int32) : Bool := decide (vR (nI 48) (nI 57) x)
/-- where a run of bytes of a sort ends; f is how many bytes are left -/
def rn (p : Int32 → Bool) (b : Nat → Int32) : Nat → Nat → Nat
  | 0, e => e
  | f + 1, e => if p (b e) = true then rn p b f (e + 1) else e
theorem rn_le (p : Int32 → Bool) (b : Nat → Int32) : ∀ f e, e ≤ rn p b f e ∧ rn p b f e ≤ e + f := by
  intro f
  induction f with
  | zero => intro e; exact ⟨Nat.le_refl _, Nat.le_refl _⟩
  | succ f ih =>
    intro e
    rw [rn]
    split
    · have := ih (e + 1); omega
    · omega
def tSt (b : Nat → Int32) (L e : Nat) : Nat := rn isSp b (L - e) e
def kS (b : Nat → Int32) (L s : Nat) : Nat := if s < L then (if isLt (b s) = true then 1 else if isDg (b s) = true then 2 else if b s = nI 59 then 3 else 4) else 0
def eS (b : Nat → Int32) (L s : Nat) : Nat := if s < L then (if isLt (b s) = true then rn isLt b (L - s) s else if isDg (b s) = true then rn isDg b (L - s) s else s + 1) else s
/-- the value of k digits from s on, held at 1000 -/
def dV (b : Nat → Int32) (s : Nat) : Nat → Nat
  | 0 => 0
  | k + 1 => min 1000 (dV b s k * 10 + ((b (s + k)).toNatClampNeg - 48))
theorem dV_le (b : Nat → Int32) (s : Nat) : ∀ k, dV b s k ≤ 1000 := by
  intro k
  cases k with
  | zero => exact Nat.zero_le _
  | succ k => exact Nat.min_le_left _ _
def vS (b : Nat → Int32) (L s : Nat) : Nat := if s < L then (if isLt (b s) = true then 0 else if isDg (b s) = true then dV b s (eS b L s - s) else 0) else 0
theorem tSt_le {b : Nat → Int32} {L e : Nat} (h : e ≤ L) : e ≤ tSt b L e ∧ tSt b L e ≤ L := by
  have := rn_le isSp b (L - e) e
  unfold tSt
  omega
theorem eS_le {b : Nat → Int32} {L s : Nat} (h : s ≤ L) : s ≤ eS b L s ∧ eS b L s ≤ L := by
  unfold eS
  have h1 := rn_le isLt b (L - s) s
  have h2 := rn_le isDg b (L - s) s
  repeat' split
  all_goals omega
theorem eS_lt {b : Nat → Int32} {L s : Nat} (h : s < L) : s < eS b L s := by
  unfold eS
  rw [if_pos h]
  have e1 : L - s = (L - s - 1) + 1 := by omega
  split
  · rename_i hl
    rw [e1, rn, if_pos hl]
    have := rn_le isLt b (L - s - 1) (s + 1)
    omega
  · split
    · rename_i hl
      rw [e1, rn, if_pos hl]
      have := rn_le isDg b (L - s - 1) (s + 1)
      omega
    · omega
/-- the class's tape -/
def tp (σ : xH) (b : Nat → Int32) (L : Nat) : Prop := σ.1 19 1 = nI L ∧ (∀ i, i < L → σ.1 20 i = b i) ∧ L ≤ 120
def cT (σ : xH) (b : Nat → Int32) (L s : Nat) : Prop := σ.1 19 2 = nI (kS b L s) ∧ σ.1 19 3 = nI s ∧ σ.1 19 4 = nI (eS b L s) ∧ σ.1 19 5 = nI (vS b L s)
/-- of the tape's own numbers only those from the k-th on may have changed, and nothing else -/
def ff (k : Nat) (σ τ : xH) : Prop := τ.2 = σ.2 ∧ (∀ q, q ≠ 19 → τ.1 q = σ.1 q) ∧ ∀ i, i < k → τ.1 19 i = σ.1 19 i
theorem ff_rf (k : Nat) (σ : xH) : ff k σ σ := ⟨rfl, fun _ _ => rfl, fun _ _ => rfl⟩
theorem ff_tr {k : Nat} {σ τ υ : xH} (h : ff k σ τ) (g : ff k τ υ) : ff k σ υ := ⟨g.1.trans h.1, fun q a => (g.2.1 q a).trans (h.2.1 q a), fun i a => (g.2.2 i a).trans (h.2.2 i a)⟩
theorem ff_le {k j : Nat} {σ τ : xH} (h : ff k σ τ) (hj : j ≤ k) : ff j σ τ := ⟨h.1, h.2.1, fun i a => h.2.2 i (by omega)⟩
theorem ff_p {k j : Nat} {σ : xH} {v : Int32} (h : k ≤ j) : ff k σ (xpi σ 19 j v) := ⟨rfl, fun q a => xui_o _ _ a, fun i a => xp_o (by omega)⟩
theorem tp_ff {σ τ : xH} {b : Nat → Int32} {L k : Nat} (h : tp σ b L) (f : ff k σ τ) (hk : 2 ≤ k) : tp τ b L := ⟨by rw [f.2.2 1 (by omega)]; exact h.1, fun i hi => by rw [f.2.1 20 (by omega)]; exact h.2.1 i hi, h.2.2⟩
set_option maxHeartbeats 4000000 in
set_option maxRecDepth 20000 in
theorem c_X2_isLetter {σ : xH} {K : Int32 → xH → Prop} (v : Int32) (hk : K (xb (vR (nI 97) (nI 122) v)) σ) : Evi l (oC ad D cy) mX2_isLetter [.int v] σ K := by
  refine x_enter (ls := [some (.int v)]) rfl ?_
  refine x_iload_n (i := 0) dX2_isLetter_0 rfl rfl ?_
  refine x_bipush (v := nI 97) dX2_isLetter_1 (by decide) ?_
  refine x_iclt (tgt := 16) dX2_isLetter_3 rfl (fun h3 => ?_) (fun h3 => ?_)
  · skip
    refine x_iconstN (n := 0) dX2_isLetter_16 ?_
    exact x_iretz dX2_isLetter_17 rfl (by decide) (by simpa (decide := true) [xb, vR, h3] using hk)
  · skip
    refine x_iload_n (i := 0) dX2_isLetter_6 rfl rfl ?_
    refine x_bipush (v := nI 122) dX2_isLetter_7 (by decide) ?_
    refine x_icgt (tgt := 16) dX2_isLetter_9 rfl (fun h9 => ?_) (fun h9 => ?_)
    · skip
      refine x_iconstN (n := 0) dX2_isLetter_16 ?_
      exact x_iretz dX2_isLetter_17 rfl (by decide) (by simpa (decide := true) [xb, vR, h3, h9] using hk)
    · skip
      refine x_iconstN (n := 1) dX2_isLetter_12 ?_
      refine x_goto (tgt := 17) dX2_isLetter_13 rfl ?_
      exact x_iretz dX2_isLetter_17 rfl (by decide) (by simpa (decide := true) [xb, vR, h3, h9] using hk)
set_option maxHeartbeats 4000000 in
set_option maxRecDepth 20000 in
theorem c_X2_isDigit {σ : xH} {K : Int32 → xH → Prop} (v : Int32) (hk : K (xb (vR (nI 48) (nI 57) v)) σ) : Evi l (oC ad D cy) mX2_isDigit [.int v] σ K := by
  refine x_enter (ls := [some (.int v)]) rfl ?_
  refine x_iload_n (i := 0) dX2_isDigit_0 rfl rfl ?_
  refine x_bipush (v := nI 48) dX2_isDigit_1 (by decide) ?_
  refine x_iclt (tgt := 16) dX2_isDigit_3 rfl (fun h3 => ?_) (fun h3 => ?_)
  · skip
    refine x_iconstN (n := 0) dX2_isDigit_16 ?_
    exact x_iretz dX2_isDigit_17 rfl (by decide) (by simpa (decide := true) [xb, vR, h3] using hk)
  · skip
    refine x_iload_n (i := 0) dX2_isDigit_6 rfl rfl ?_
    refine x_bipush (v := nI 57) dX2_isDigit_7 (by decide) ?_
    refine x_icgt (tgt := 16) dX2_isDigit_9 rfl (fun h9 => ?_) (fun h9 => ?_)
    · skip
      refine x_iconstN (n := 0) dX2_isDigit_16 ?_
      exact x_iretz dX2_isDigit_17 rfl (by decide) (by simpa (decide := true) [xb, vR, h3, h9] using hk)
    · skip
      refine x_iconstN (n := 1) dX2_isDigit_12 ?_
      refine x_goto (tgt := 17) dX2_isDigit_13 rfl ?_
      exact x_iretz dX2_isDigit_17 rfl (by decide) (by simpa (decide := true) [xb, vR, h3, h9] using hk)
set_option maxHeartbeats 4000000 in
set_option maxRecDepth 20000 in
theorem c_X2_isNumber {σ : xH} {K : Int32 → xH → Prop} {a c : Int32} {t v : Nat} (et : σ.1 19 2 = nI t) (ht : t < 2 ^ 31) (ev : σ.1 19 5 = nI v) (hk : K (xb (t = 2 ∧ vR a c (nI v))) σ) : Evi l (oC ad D cy) mX2_isNumber [.ref 19, .int a, .int c] σ K := by
  refine x_enter (ls := [some (.ref 19), some (.int a), some (.int c)]) rfl ?_
  refine x_aload_n (i := 0) dX2_isNumber_0 rfl rfl ?_
  refine x_getiE (i := 2) dX2_isNumber_1 rfl rfl rfl (by decide) fl_X2_32 inX2 et ?_
  refine x_iconstN (n := 2) dX2_isNumber_4 ?_
  refine x_icneN (tgt := 28) (by omega) (by omega) dX2_isNumber_5 rfl (fun h5 => ?_) (fun h5 => ?_)
  · skip
    refine x_iconstN (n := 0) dX2_isNumber_28 ?_
    exact x_iretz dX2_isNumber_29 rfl (by decide) (by simpa (decide := true) [xb, vR, h5] using hk)
  · skip
    refine x_aload_n (i := 0) dX2_isNumber_8 rfl rfl ?_
    refine x_getiE (i := 5) dX2_isNumber_9 rfl rfl rfl (by decide) fl_X2_59 inX2 ev ?_
    refine x_iload_n (i := 1) dX2_isNumber_12 rfl rfl ?_
    refine x_iclt (tgt := 28) dX2_isNumber_13 rfl (fun h13 => ?_) (fun h13 => ?_)
    · skip
      refine x_iconstN (n := 0) dX2_isNumber_28 ?_
      exact x_iretz dX2_isNumber_29 rfl (by decide) (by simpa (decide := true) [xb, vR, h5, h13] using hk)
    · skip
      refine x_aload_n (i := 0) dX2_isNumber_16 rfl rfl ?_
      refine x_getiE (i := 5) dX2_isNumber_17 rfl rfl rfl (by decide) fl_X2_59 inX2 ev ?_
      refine x_iload_n (i := 2) dX2_isNumber_20 rfl rfl ?_
      refine x_icgt (tgt := 28) dX2_isNumber_21 rfl (fun h21 => ?_) (fun h21 => ?_)
      · skip
        refine x_iconstN (n := 0) dX2_isNumber_28 ?_
        exact x_iretz dX2_isNumber_29 rfl (by decide) (by simpa (decide := true) [xb, vR, h5, h13, h21] using hk)
      · skip
        refine x_iconstN (n := 1) dX2_isNumber_24 ?_
        refine x_goto (tgt := 29) dX2_isNumber_25 rfl ?_
        exact x_iretz dX2_isNumber_29 rfl (by decide) (by simpa (decide := true) [xb, vR, h5, h13, h21] using hk)
set_option maxHeartbeats 4000000 in
set_option maxRecDepth 20000 in
theorem l_tk1 {K : xH → Prop} {σ0 : xH} {b : Nat → Int32} {L e : Nat} (hp : tp σ0 b L) (hk : ∀ τ, ff 3 σ0 τ → τ.1 19 3 = nI (tSt b L e) → Ex l (oC ad D cy) mX2_nextToken 46 [some (.ref 19)] [] τ (xQv K)) : ∀ (n i : Nat) (σ : xH), i + n = (L + 0) → (σ.1 19 3 = nI i) → (tSt b L e = rn isSp b (L - i) i) → (ff 3 σ0 σ) → Ex l (oC ad D cy) mX2_nextToken 8 [some (.ref 19)] [] σ (xQv K) := by
  intro n
  induction n with
  | zero =>
    intro i σ hi hs hr hf
    have hi : i = (L + 0) := by omega
    subst hi
    have hL := hp.2.2
    refine x_aload_n (i := 0) dX2_nextToken_8 rfl rfl ?_
    refine x_getiE (i := 3) dX2_nextToken_9 rfl rfl rfl (by decide) fl_X2_29 inX2 hs ?_
    refine x_aload_n (i := 0) dX2_nextToken_12 rfl rfl ?_
    refine x_getiE (i := 1) dX2_nextToken_13 rfl rfl rfl (by decide) fl_X2_15 inX2 (tp_ff hp hf (by omega)).1 ?_
    refine x_icgeN (tgt := 46) (by omega) (by omega) dX2_nextToken_16 rfl (fun h16 => ?_) (fun h16 => ?_)
    · skip
      exact hk σ hf (hs.trans (by rw [hr, Nat.sub_self]; rfl))
    · exact absurd h16 (by omega)
  | succ n ih =>
    intro i σ hi hs hr hf
    have hL := hp.2.2
    have e1 : L - i = n + 1 := by omega
    rw [e1] at hr
    refine x_aload_n (i := 0) dX2_nextToken_8 rfl rfl ?_
    refine x_getiE (i := 3) dX2_nextToken_9 rfl rfl rfl (by decide) fl_X2_29 inX2 hs ?_
    refine x_aload_n (i := 0) dX2_nextToken_12 rfl rfl ?_
    refine x_getiE (i := 1) dX2_nextToken_13 rfl rfl rfl (by decide) fl_X2_15 inX2 (tp_ff hp hf (by omega)).1 ?_
    refine x_icgeN (tgt := 46) (by omega) (by omega) dX2_nextToken_16 rfl (fun h16 => ?_) (fun h16 => ?_)
    · exact absurd h16 (by omega)
    · skip
      refine x_aload_n (i := 0) dX2_nextToken_19 rfl rfl ?_
      refine x_getr (i := 0) dX2_nextToken_20 rfl rfl rfl (by decide) fl_X2_9 inX2 ?_
      refine x_aload_n (i := 0) dX2_nextToken_23 rfl rfl ?_
      refine x_getiE (i := 3) dX2_nextToken_24 rfl rfl rfl (by decide) fl_X2_29 inX2 hs ?_
      refine x_ialdE dX2_nextToken_27 rfl (by omega) (by decide) ((tp_ff hp hf (by omega)).2.1 i (by omega)) ?_
      refine x_bipush (v := nI 32) dX2_nextToken_28 (by decide) ?_
      refine x_icne (tgt := 46) dX2_nextToken_30 rfl (fun h30 => ?_) (fun h30 => ?_)
      · skip
        exact hk σ hf (hs.trans (by rw [hr, rn, if_neg (by simpa [isSp] using h30)]))
      · skip
        refine x_aload_n (i := 0) dX2_nextToken_33 rfl rfl ?_
        refine x_dup dX2_nextToken_34 rfl ?_
        refine x_getiE (i := 3) dX2_nextToken_35 rfl rfl rfl (by decide) fl_X2_29 inX2 hs ?_
        refine x_iconstN (n := 1) dX2_nextToken_38 ?_
        refine x_iaddN dX2_nextToken_39 ?_
        refine x_puti (i := 3) (ty := .int) dX2_nextToken_40 rfl rfl rfl (by decide) fl_X2_29 inX2 tyX2_ok nmX2 rfl rfl rfl rfl ?_
        refine x_goto (tgt := 8) dX2_nextToken_43 rfl ?_
        exact ih (i + 1) _ (by omega) xp_s (hr.trans (by rw [rn, if_pos (by simpa [isSp] using h30), show L - (i + 1) = n by omega])) (ff_tr hf (ff_p (by omega)))
set_option maxHeartbeats 4000000 in
set_option maxRecDepth 20000 in
theorem l_tk2 {K : xH → Prop} {σ0 : xH} {b : Nat → Int32} {L s : Nat} (hp : tp σ0 b L) (hk : ∀ τ, ff 4 σ0 τ → τ.1 19 4 = nI (rn isLt b (L - s) s) → τ.1 19 5 = nI 0 → K τ) : ∀ (n i : Nat) (σ : xH), i + n = (L + 0) → (σ.1 19 4 = nI i) → (σ.1 19 5 = nI 0) → (rn isLt b (L - s) s = rn isLt b (L - i) i) → (ff 4 σ0 σ) → Ex l (oC ad D cy) mX2_nextToken 98 [some (.ref 19)] [] σ (xQv K) := by
  intro n
  induction n with
  | zero =>
    intro i σ hi he hv hr hf
    have hi : i = (L + 0) := by omega
    subst hi
    have hL := hp.2.2
    refine x_aload_n (i := 0) dX2_nextToken_98 rfl rfl ?_
    refine x_getiE (i := 4) dX2_nextToken_99 rfl rfl rfl (by decide) fl_X2_19 inX2 he ?_
    refine x_aload_n (i := 0) dX2_nextToken_102 rfl rfl ?_
    refine x_getiE (i := 1) dX2_nextToken_103 rfl rfl rfl (by decide) fl_X2_15 inX2 (tp_ff hp hf (by omega)).1 ?_
    refine x_icgeN (tgt := 197) (by omega) (by omega) dX2_nextToken_106 rfl (fun h106 => ?_) (fun h106 => ?_)
    · skip
      exact x_retv dX2_nextToken_197 rfl (hk σ hf (he.trans (by rw [hr, Nat.sub_self]; rfl)) hv)
    · exact absurd h106 (by omega)
  | succ n ih =>
    intro i σ hi he hv hr hf
    have hL := hp.2.2
    have e1 : L - i = n + 1 := by omega
    rw [e1] at hr
    refine x_aload_n (i := 0) dX2_nextToken_98 rfl rfl ?_
    refine x_getiE (i := 4) dX2_nextToken_99 rfl rfl rfl (by decide) fl_X2_19 inX2 he ?_
    refine x_aload_n (i := 0) dX2_nextToken_102 rfl rfl ?_
    refine x_getiE (i := 1) dX2_nextToken_103 rfl rfl rfl (by decide) fl_X2_15 inX2 (tp_ff hp hf (by omega)).1 ?_
    refine x_icgeN (tgt := 197) (by omega) (by omega) dX2_nextToken_106 rfl (fun h106 => ?_) (fun h106 => ?_)
    · exact absurd h106 (by omega)
    · skip
      refine x_aload_n (i := 0) dX2_nextToken_109 rfl rfl ?_
      refine x_getr (i := 0) dX2_nextToken_110 rfl rfl rfl (by decide) fl_X2_9 inX2 ?_
      refine x_aload_n (i := 0) dX2_nextToken_113 rfl rfl ?_
      refine x_getiE (i := 4) dX2_nextToken_114 rfl rfl rfl (by decide) fl_X2_19 inX2 he ?_
      refine x_ialdE dX2_nextToken_117 rfl (by omega) (by decide) ((tp_ff hp hf (by omega)).2.1 i (by omega)) ?_
      refine x_s1i dX2_nextToken_118 okX2_isLetter ml_X2_118 (Nat.le_of_ble_eq_true rfl) ⟨by decide, by decide⟩ (Nat.le_of_ble_eq_true rfl) (c_X2_isLetter _ ?_)
      refine x_ifeqP (tgt := 197) dX2_nextToken_121 rfl (fun h121 => ?_) (fun h121 => ?_)
      · skip
        exact x_retv dX2_nextToken_197 rfl (hk σ hf (he.trans (by rw [hr, rn, if_neg (show ¬ isLt (b i) = true from fun z => h121 (of_decide_eq_true z))])) hv)
      · skip
        refine x_aload_n (i := 0) dX2_nextToken_124 rfl rfl ?_
        refine x_dup dX2_nextToken_125 rfl ?_
        refine x_getiE (i := 4) dX2_nextToken_126 rfl rfl rfl (by decide) fl_X2_19 inX2 he ?_
        refine x_iconstN (n := 1) dX2_nextToken_129 ?_
        refine x_iaddN dX2_nextToken_130 ?_
        refine x_puti (i := 4) (ty := .int) dX2_nextToken_131 rfl rfl rfl (by decide) fl_X2_19 inX2 tyX2_ok nmX2 rfl rfl rfl rfl ?_
        refine x_goto (tgt := 98) dX2_nextToken_134 rfl ?_
        exact ih (i + 1) _ (by omega) xp_s (by rw [xp_o (by omega)]; exact hv) (hr.trans (by rw [rn, if_pos (show isLt (b i) = true from decide_eq_true h121), show L - (i + 1) = n by omega])) (ff_tr hf (ff_p (by omega)))
theorem mn1000 {v : Nat} (hv : v < 2 ^ 31) : (if nI 1000 < nI v then nI 1000 else nI v) = nI (min 1000 v) := by
  by_cases h : 1000 < v
  · rw [if_pos (nI_lt h hv), Nat.min_eq_left (by omega)]
  · rw [if_neg (nI_nlt (by omega) (by omega)), Nat.min_eq_right (by omega)]
set_option maxHeartbeats 4000000 in
set_option maxRecDepth 20000 in
theorem l_X2_readNumber {K : xH → Prop} {σ0 : xH} {b : Nat → Int32} {L s : Nat} (hp : tp σ0 b L) (hk : ∀ τ, ff 4 σ0 τ → τ.1 19 4 = nI (rn isDg b (L - s) s) → τ.1 19 5 = nI (dV b s (rn isDg b (L - s) s - s)) → K τ) : ∀ (n i : Nat) (σ : xH), i + n = (L + 0) → (s ≤ i) → (σ.1 19 4 = nI i) → (σ.1 19 5 = nI (dV b s (i - s))) → (rn isDg b (L - s) s = rn isDg b (L - i) i) → (ff 4 σ0 σ) → Ex l (oC ad D cy) mX2_readNumber 0 [some (.ref 19)] [] σ (xQv K) := by
  intro n
  induction n with
  | zero =>
    intro i σ hi hsi he hv hr hf
    have hi : i = (L + 0) := by omega
    subst hi
    have hL := hp.2.2
    have hr2 := hr
    rw [Nat.sub_self] at hr2
    have hr2 : rn isDg b (i - s) s = i := hr2
    refine x_aload_n (i := 0) dX2_readNumber_0 rfl rfl ?_
    refine x_getiE (i := 4) dX2_readNumber_1 rfl rfl rfl (by decide) fl_X2_19 inX2 he ?_
    refine x_aload_n (i := 0) dX2_readNumber_4 rfl rfl ?_
    refine x_getiE (i := 1) dX2_readNumber_5 rfl rfl rfl (by decide) fl_X2_15 inX2 (tp_ff hp hf (by omega)).1 ?_
    refine x_icgeN (tgt := 69) (by omega) (by omega) dX2_readNumber_8 rfl (fun h8 => ?_) (fun h8 => ?_)
    · skip
      exact x_retv dX2_readNumber_69 rfl (hk σ hf (he.trans (by rw [hr2])) (hv.trans (by rw [hr2])))
    · exact absurd h8 (by omega)
  | succ n ih =>
    intro i σ hi hsi he hv hr hf
    have hL := hp.2.2
    have hle0 := dV_le b s (i - s)
    have e1 : L - i = n + 1 := by omega
    rw [e1] at hr
    refine x_aload_n (i := 0) dX2_readNumber_0 rfl rfl ?_
    refine x_getiE (i := 4) dX2_readNumber_1 rfl rfl rfl (by decide) fl_X2_19 inX2 he ?_
    refine x_aload_n (i := 0) dX2_readNumber_4 rfl rfl ?_
    refine x_getiE (i := 1) dX2_readNumber_5 rfl rfl rfl (by decide) fl_X2_15 inX2 (tp_ff hp hf (by omega)).1 ?_
    refine x_icgeN (tgt := 69) (by omega) (by omega) dX2_readNumber_8 rfl (fun h8 => ?_) (fun h8 => ?_)
    · exact absurd h8 (by omega)
    · skip
      refine x_aload_n (i := 0) dX2_readNumber_11 rfl rfl ?_
      refine x_getr (i := 0) dX2_readNumber_12 rfl rfl rfl (by decide) fl_X2_9 inX2 ?_
      refine x_aload_n (i := 0) dX2_readNumber_15 rfl rfl ?_
      refine x_getiE (i := 4) dX2_readNumber_16 rfl rfl rfl (by decide) fl_X2_19 inX2 he ?_
      refine x_ialdE dX2_readNumber_19 rfl (by omega) (by decide) ((tp_ff hp hf (by omega)).2.1 i (by omega)) ?_
      refine x_s1i dX2_readNumber_20 okX2_isDigit ml_X2_122 (Nat.le_of_ble_eq_true rfl) ⟨by decide, by decide⟩ (Nat.le_of_ble_eq_true rfl) (c_X2_isDigit _ ?_)
      refine x_ifeqP (tgt := 69) dX2_readNumber_23 rfl (fun h23 => ?_) (fun h23 => ?_)
      · skip
        exact x_retv dX2_readNumber_69 rfl (by have hr2 : rn isDg b (L - s) s = i := hr.trans (by rw [rn, if_neg (show ¬ isDg (b i) = true from fun z => h23 (of_decide_eq_true z))]); exact hk σ hf (he.trans (by rw [hr2])) (hv.trans (by rw [hr2])))
      · skip
        refine x_aload_n (i := 0) dX2_readNumber_26 rfl rfl ?_
        refine x_aload_n (i := 0) dX2_readNumber_27 rfl rfl ?_
        refine x_getiE (i := 5) dX2_readNumber_28 rfl rfl rfl (by decide) fl_X2_59 inX2 hv ?_
        refine x_bipush (v := nI 10) dX2_readNumber_31 (by decide) ?_
        refine x_imulN dX2_readNumber_33 ?_
        refine x_aload_n (i := 0) dX2_readNumber_34 rfl rfl ?_
        refine x_getr (i := 0) dX2_readNumber_35 rfl rfl rfl (by decide) fl_X2_9 inX2 ?_
        refine x_aload_n (i := 0) dX2_readNumber_38 rfl rfl ?_
        refine x_getiE (i := 4) dX2_readNumber_39 rfl rfl rfl (by decide) fl_X2_19 inX2 he ?_
        refine x_ialdE dX2_readNumber_42 rfl (by omega) (by decide) ((tp_ff hp hf (by omega)).2.1 i (by omega)) ?_
        obtain ⟨x, h48, h57, ex⟩ := vR_of h23 (by decide) (by decide)
        refine x_top ex ?_
        refine x_iaddN dX2_readNumber_43 ?_
        refine x_bipush (v := nI 48) dX2_readNumber_44 (by decide) ?_
        refine x_isubN (by omega) dX2_readNumber_46 ?_
        refine x_sipush (v := nI 1000) dX2_readNumber_47 (by decide) ?_
        refine x_min dX2_readNumber_50 ml_X2_128 sm_J9_min_7cf53 in_J9 co_J9_min_7cf53 (by decide) (Nat.le_of_ble_eq_true rfl) ?_
        have hx : (b (s + (i - s))).toNatClampNeg = x := by rw [show s + (i - s) = i by omega, ex, nI_clamp (by omega)]
        have hle := dV_le b s (i - s)
        refine x_top (y := nI (dV b s (i + 1 - s))) (by rw [show i + 1 - s = (i - s) + 1 by omega, dV, hx, show dV b s (i - s) * 10 + x - 48 = dV b s (i - s) * 10 + (x - 48) by omega]; exact mn1000 (by omega)) ?_
        refine x_puti (i := 5) (ty := .int) dX2_readNumber_53 rfl rfl rfl (by decide) fl_X2_59 inX2 tyX2_ok nmX2 rfl rfl rfl rfl ?_
        refine x_aload_n (i := 0) dX2_readNumber_56 rfl rfl ?_
        refine x_dup dX2_readNumber_57 rfl ?_
        refine x_getiE (i := 4) dX2_readNumber_58 rfl rfl rfl (by decide) fl_X2_19 inX2 (show _ = nI i by rw [xp_o (by omega)]; exact he) ?_
        refine x_iconstN (n := 1) dX2_readNumber_61 ?_
        refine x_iaddN dX2_readNumber_62 ?_
        refine x_puti (i := 4) (ty := .int) dX2_readNumber_63 rfl rfl rfl (by decide) fl_X2_19 inX2 tyX2_ok nmX2 rfl rfl rfl rfl ?_
        refine x_goto (tgt := 0) dX2_readNumber_66 rfl ?_
        exact ih (i + 1) _ (by omega) (by omega) xp_s (by rw [xp_o (by omega), xp_s]) (hr.trans (by rw [rn, if_pos (show isDg (b i) = true from decide_eq_true h23), show L - (i + 1) = n by omega])) (ff_tr hf (ff_tr (ff_p (by omega)) (ff_p (by omega))))
theorem c_X2_readNumber {σ : xH} {K : xH → Prop} {b : Nat → Int32} {L s : Nat} (hp : tp σ b L) (hs : s ≤ L) (he : σ.1 19 4 = nI s) (hv : σ.1 19 5 = nI 0) (hk : ∀ τ, ff 4 σ τ → τ.1 19 4 = nI (rn isDg b (L - s) s) → τ.1 19 5 = nI (dV b s (rn isDg b (L - s) s - s)) → K τ) : Evv l (oC ad D cy) mX2_readNumber [.ref 19] σ K := by
  refine x_enter (ls := [some (.ref 19)]) rfl ?_
  exact l_X2_readNumber hp hk (L - s) s σ (by omega) (Nat.le_refl _) he (by rw [Nat.sub_self]; exact hv) rfl (ff_rf 4 σ)
end
