section
variable {l : Launch} {ad : Nat → Nat} {D : va_G} {cy : Nat → ClassId}
/-- the model's value of k letters, of k digits -/
def wN (b : Nat → Int32) (s : Nat) : Nat → Nat
  | 0 => 0
  | k + 1 => if 9999999999999 < wN b s k then wN b s k else wN b s k * 27 + ((b (s + k)).toNatClampNeg - 96)
def nN (b : Nat → Int32) (s : Nat) : Nat → Nat
  | 0 => 0
  | k + 1 => if 999 < nN b s k then nN b s k else nN b s k * 10 + ((b (s + k)).toNatClampNeg - 48)
def mk (b : Nat → Int32) (L s : Nat) : Nat := if kS b L s = 2 ∧ 999 < nN b s (eS b L s - s) then 4 else kS b L s
def mp (σ : xH) (b : Nat → Int32) (L : Nat) : Prop := σ.1 0 9 = nI L ∧ (∀ i, i < L → σ.1 6 i = b i) ∧ L ≤ 120
def mT (σ : xH) (b : Nat → Int32) (L s : Nat) : Prop := σ.1 0 10 = nI (mk b L s) ∧ σ.1 0 11 = nI s ∧ σ.1 0 12 = nI (eS b L s) ∧ (kS b L s = 1 → σ.2 0 13 = lN (wN b s (eS b L s - s))) ∧ (kS b L s = 2 → σ.2 0 13 = lN (nN b s (eS b L s - s)))
def gf (k : Nat) (σ τ : xH) : Prop := (∀ q, q ≠ 0 → τ.1 q = σ.1 q) ∧ (∀ i, i < k → τ.1 0 i = σ.1 0 i) ∧ ∀ q, q ≠ 0 → τ.2 q = σ.2 q
theorem gf_rf (k : Nat) (σ : xH) : gf k σ σ := ⟨fun _ _ => rfl, fun _ _ => rfl, fun _ _ => rfl⟩
theorem gf_tr {k : Nat} {σ τ υ : xH} (h : gf k σ τ) (g : gf k τ υ) : gf k σ υ := ⟨fun q a => (g.1 q a).trans (h.1 q a), fun i a => (g.2.1 i a).trans (h.2.1 i a), fun q a => (g.2.2 q a).trans (h.2.2 q a)⟩
theorem gf_le {k j : Nat} {σ τ : xH} (h : gf k σ τ) (hj : j ≤ k) : gf j σ τ := ⟨h.1, fun i a => h.2.1 i (by omega), h.2.2⟩
theorem gf_p {k j : Nat} {σ : xH} {v : Int32} (h : k ≤ j) : gf k σ (xpi σ 0 j v) := ⟨fun q a => xui_o _ _ a, fun i a => xp_o (by omega), fun _ _ => rfl⟩
theorem gf_l {k j : Nat} {σ : xH} {v : Int64} : gf k σ (xpl σ 0 j v) := ⟨fun _ _ => rfl, fun _ _ => rfl, fun q a => xul_o _ _ a⟩
theorem mp_gf {σ τ : xH} {b : Nat → Int32} {L k : Nat} (h : mp σ b L) (f : gf k σ τ) (hk : 10 ≤ k) : mp τ b L := ⟨by rw [f.2.1 9 (by omega)]; exact h.1, fun i hi => by rw [f.1 6 (by omega)]; exact h.2.1 i hi, h.2.2⟩
theorem lcm_le {v c : Nat} (hv : v < 2 ^ 63) (hc : c < 2 ^ 63) : lg_cmp (lN v) (lN c) ≤ 0 ↔ v ≤ c := by
  have ev : (lN v).toInt = v := Int64.toInt_ofNat_of_lt hv
  have ec : (lN c).toInt = c := Int64.toInt_ofNat_of_lt hc
  unfold lg_cmp
  by_cases h : lN v > lN c
  · rw [if_pos h]
    have h : lN c < lN v := h
    rw [Int64.lt_iff_toInt_lt, ev, ec] at h
    constructor
    · intro z; exact absurd z (by decide)
    · intro z; omega
  · rw [if_neg h]
    have h2 : ¬ lN c < lN v := h
    rw [Int64.lt_iff_toInt_lt, ev, ec] at h2
    constructor
    · intro _; omega
    · intro _
      split
      · decide
      · decide
theorem xl_s2 {σ : xH} {c p q r : Nat} {v : Int64} {x : Int32} : (xpi (xpl σ c p v) q r x).2 c p = v := xl_s (σ := σ)
theorem w_step {v x : Nat} (h97 : 97 ≤ x) (h122 : x ≤ 122) : lN v * 27 + (nI x).toInt64 - 96 = lN (v * 27 + (x - 96)) := by
  rw [nI_l (by omega), show (27 : Int64) = lN 27 from rfl, lN_mul, lN_add, show (96 : Int64) = lN 96 from rfl, lN_sub (by omega)]
  congr 1
  omega
theorem n_step {v x : Nat} (h48 : 48 ≤ x) (h57 : x ≤ 57) : lN v * 10 + (nI x).toInt64 - 48 = lN (v * 10 + (x - 48)) := by
  rw [nI_l (by omega), show (10 : Int64) = lN 10 from rfl, lN_mul, lN_add, show (48 : Int64) = lN 48 from rfl, lN_sub (by omega)]
  congr 1
  omega
theorem wN_lt {b : Nat → Int32} {s : Nat} : ∀ k, (∀ j, j < k → ∃ x, 97 ≤ x ∧ x ≤ 122 ∧ b (s + j) = nI x) → wN b s k < 2 ^ 62 := by
  intro k
  induction k with
  | zero => intro _; exact (show (0 : Nat) < 2 ^ 62 by decide)
  | succ k ih =>
    intro h
    have := ih (fun j hj => h j (by omega))
    obtain ⟨x, h1, h2, e⟩ := h k (by omega)
    rw [wN]
    split
    · exact this
    · rw [e, nI_clamp (by omega)]
      omega
theorem nN_lt {b : Nat → Int32} {s : Nat} : ∀ k, (∀ j, j < k → ∃ x, 48 ≤ x ∧ x ≤ 57 ∧ b (s + j) = nI x) → nN b s k < 2 ^ 30 := by
  intro k
  induction k with
  | zero => intro _; exact (show (0 : Nat) < 2 ^ 30 by decide)
  | succ k ih =>
    intro h
    have := ih (fun j hj => h j (by omega))
    obtain ⟨x, h1, h2, e⟩ := h k (by omega)
    rw [nN]
    split
    · exact this
    · rw [e, nI_clamp (by omega)]
      omega
set_option maxHeartbeats 4000000 in
set_option maxRecDepth 20000 in
theorem c_X5_isLetter {σ : xH} {K : Int32 → xH → Prop} (v : Int32) (hk : K (xb (vR (nI 97) (nI 122) v)) σ) : Evi l (oM ad D cy) mX5_isLetter [.int v] σ K := by
  refine x_enter (ls := [some (.int v)]) rfl ?_
  refine x_iload_n (i := 0) dX5_isLetter_0 rfl rfl ?_
  refine x_bipush (v := nI 97) dX5_isLetter_1 (by decide) ?_
  refine x_bipush (v := nI 122) dX5_isLetter_3 (by decide) ?_
  refine x_s3i dX5_isLetter_5 okX5_in1 ml_X5_52 (Nat.le_of_ble_eq_true rfl) ⟨by decide, by decide⟩ (Nat.le_of_ble_eq_true rfl) (c_X5_in1 _ _ _ ?_)
  exact x_iretz dX5_isLetter_8 rfl (xb_01 _) hk
set_option maxHeartbeats 4000000 in
set_option maxRecDepth 20000 in
theorem c_X5_isDigit {σ : xH} {K : Int32 → xH → Prop} (v : Int32) (hk : K (xb (vR (nI 48) (nI 57) v)) σ) : Evi l (oM ad D cy) mX5_isDigit [.int v] σ K := by
  refine x_enter (ls := [some (.int v)]) rfl ?_
  refine x_iload_n (i := 0) dX5_isDigit_0 rfl rfl ?_
  refine x_bipush (v := nI 48) dX5_isDigit_1 (by decide) ?_
  refine x_bipush (v := nI 57) dX5_isDigit_3 (by decide) ?_
  refine x_s3i dX5_isDigit_5 okX5_in1 ml_X5_52 (Nat.le_of_ble_eq_true rfl) ⟨by decide, by decide⟩ (Nat.le_of_ble_eq_true rfl) (c_X5_in1 _ _ _ ?_)
  exact x_iretz dX5_isDigit_8 rfl (xb_01 _) hk
set_option maxHeartbeats 4000000 in
set_option maxRecDepth 20000 in
theorem l_mk1 {K : xH → Prop} {σ0 : xH} {b : Nat → Int32} {L e : Nat} (hp : mp σ0 b L) (hk : ∀ τ, gf 11 σ0 τ → τ.1 0 11 = nI (tSt b L e) → Ex l (oM ad D cy) mX5_nextToken 46 [some (.ref 0)] [] τ (xQv K)) : ∀ (n i : Nat) (σ : xH), i + n = (L + 0) → (σ.1 0 11 = nI i) → (tSt b L e = rn isSp b (L - i) i) → (gf 11 σ0 σ) → Ex l (oM ad D cy) mX5_nextToken 8 [some (.ref 0)] [] σ (xQv K) := by
  intro n
  induction n with
  | zero =>
    intro i σ hi hs hr hf
    have hi : i = (L + 0) := by omega
    subst hi
    have hL := hp.2.2
    refine x_aload_n (i := 0) dX5_nextToken_8 rfl rfl ?_
    refine x_getiE (i := 11) dX5_nextToken_9 rfl rfl rfl (by decide) fl_X5_172 inX5 hs ?_
    refine x_aload_n (i := 0) dX5_nextToken_12 rfl rfl ?_
    refine x_getiE (i := 9) dX5_nextToken_13 rfl rfl rfl (by decide) fl_X5_166 inX5 (mp_gf hp hf (by omega)).1 ?_
    refine x_icgeN (tgt := 46) (by omega) (by omega) dX5_nextToken_16 rfl (fun h16 => ?_) (fun h16 => ?_)
    · skip
      exact hk σ hf (hs.trans (by rw [hr, Nat.sub_self]; rfl))
    · exact absurd h16 (by omega)
  | succ n ih =>
    intro i σ hi hs hr hf
    have hL := hp.2.2
    have e1 : L - i = n + 1 := by omega
    rw [e1] at hr
    refine x_aload_n (i := 0) dX5_nextToken_8 rfl rfl ?_
    refine x_getiE (i := 11) dX5_nextToken_9 rfl rfl rfl (by decide) fl_X5_172 inX5 hs ?_
    refine x_aload_n (i := 0) dX5_nextToken_12 rfl rfl ?_
    refine x_getiE (i := 9) dX5_nextToken_13 rfl rfl rfl (by decide) fl_X5_166 inX5 (mp_gf hp hf (by omega)).1 ?_
    refine x_icgeN (tgt := 46) (by omega) (by omega) dX5_nextToken_16 rfl (fun h16 => ?_) (fun h16 => ?_)
    · exact absurd h16 (by omega)
    · skip
      refine x_aload_n (i := 0) dX5_nextToken_19 rfl rfl ?_
      refine x_getr (i := 8) dX5_nextToken_20 rfl rfl rfl (by decide) fl_X5_25 inX5 ?_
      refine x_aload_n (i := 0) dX5_nextToken_23 rfl rfl ?_
      refine x_getiE (i := 11) dX5_nextToken_24 rfl rfl rfl (by decide) fl_X5_172 inX5 hs ?_
      refine x_ialdE dX5_nextToken_27 rfl (by omega) (by decide) ((mp_gf hp hf (by omega)).2.1 i (by omega)) ?_
      refine x_bipush (v := nI 32) dX5_nextToken_28 (by decide) ?_
      refine x_icne (tgt := 46) dX5_nextToken_30 rfl (fun h30 => ?_) (fun h30 => ?_)
      · skip
        exact hk σ hf (hs.trans (by rw [hr, rn, if_neg (by simpa [isSp] using h30)]))
      · skip
        refine x_aload_n (i := 0) dX5_nextToken_33 rfl rfl ?_
        refine x_dup dX5_nextToken_34 rfl ?_
        refine x_getiE (i := 11) dX5_nextToken_35 rfl rfl rfl (by decide) fl_X5_172 inX5 hs ?_
        refine x_iconstN (n := 1) dX5_nextToken_38 ?_
        refine x_iaddN dX5_nextToken_39 ?_
        refine x_puti (i := 11) (ty := .int) dX5_nextToken_40 rfl rfl rfl (by decide) fl_X5_172 inX5 tyX5_ok nmX5 rfl rfl rfl rfl ?_
        refine x_goto (tgt := 8) dX5_nextToken_43 rfl ?_
        exact ih (i + 1) _ (by omega) xp_s (hr.trans (by rw [rn, if_pos (by simpa [isSp] using h30), show L - (i + 1) = n by omega])) (gf_tr hf (gf_p (by omega)))
set_option maxHeartbeats 4000000 in
set_option maxRecDepth 20000 in
theorem l_mk_letters {K : xH → Prop} {σ0 : xH} {b : Nat → Int32} {L s : Nat} (hp : mp σ0 b L) (hk : ∀ τ, gf 12 σ0 τ → τ.1 0 12 = nI (rn isLt b (L - s) s) → τ.2 0 13 = lN (wN b s (rn isLt b (L - s) s - s)) → (∀ j, s + j < rn isLt b (L - s) s → ∃ x, 97 ≤ x ∧ x ≤ 122 ∧ b (s + j) = nI x) → K τ) : ∀ (n i : Nat) (σ : xH), i + n = (L + 0) → (s ≤ i) → (σ.1 0 12 = nI i) → (σ.2 0 13 = lN (wN b s (i - s))) → (rn isLt b (L - s) s = rn isLt b (L - i) i) → (∀ j, s + j < i → ∃ x, 97 ≤ x ∧ x ≤ 122 ∧ b (s + j) = nI x) → (gf 12 σ0 σ) → Ex l (oM ad D cy) mX5_nextToken 98 [some (.ref 0)] [] σ (xQv K) := by
  intro n
  induction n with
  | zero =>
    intro i σ hi hsi he hv hr ha hf
    have hi : i = (L + 0) := by omega
    subst hi
    have hL := hp.2.2
    have hr2 := hr
    rw [Nat.sub_self] at hr2
    have hr2 : rn isLt b (i - s) s = i := hr2
    refine x_aload_n (i := 0) dX5_nextToken_98 rfl rfl ?_
    refine x_getiE (i := 12) dX5_nextToken_99 rfl rfl rfl (by decide) fl_X5_169 inX5 he ?_
    refine x_aload_n (i := 0) dX5_nextToken_102 rfl rfl ?_
    refine x_getiE (i := 9) dX5_nextToken_103 rfl rfl rfl (by decide) fl_X5_166 inX5 (mp_gf hp hf (by omega)).1 ?_
    refine x_icgeN (tgt := 337) (by omega) (by omega) dX5_nextToken_106 rfl (fun h106 => ?_) (fun h106 => ?_)
    · skip
      exact x_retv dX5_nextToken_337 rfl (hk σ hf (he.trans (by rw [hr2])) (hv.trans (by rw [hr2])) (by rw [hr2]; exact ha))
    · exact absurd h106 (by omega)
  | succ n ih =>
    intro i σ hi hsi he hv hr ha hf
    have hL := hp.2.2
    have e1 : L - i = n + 1 := by omega
    rw [e1] at hr
    have hlt := wN_lt (b := b) (s := s) (i - s) (fun j hj => ha j (by omega))
    refine x_aload_n (i := 0) dX5_nextToken_98 rfl rfl ?_
    refine x_getiE (i := 12) dX5_nextToken_99 rfl rfl rfl (by decide) fl_X5_169 inX5 he ?_
    refine x_aload_n (i := 0) dX5_nextToken_102 rfl rfl ?_
    refine x_getiE (i := 9) dX5_nextToken_103 rfl rfl rfl (by decide) fl_X5_166 inX5 (mp_gf hp hf (by omega)).1 ?_
    refine x_icgeN (tgt := 337) (by omega) (by omega) dX5_nextToken_106 rfl (fun h106 => ?_) (fun h106 => ?_)
    · exact absurd h106 (by omega)
    · skip
      refine x_aload_n (i := 0) dX5_nextToken_109 rfl rfl ?_
      refine x_getr (i := 8) dX5_nextToken_110 rfl rfl rfl (by decide) fl_X5_25 inX5 ?_
      refine x_aload_n (i := 0) dX5_nextToken_113 rfl rfl ?_
      refine x_getiE (i := 12) dX5_nextToken_114 rfl rfl rfl (by decide) fl_X5_169 inX5 he ?_
      refine x_ialdE dX5_nextToken_117 rfl (by omega) (by decide) ((mp_gf hp hf (by omega)).2.1 i (by omega)) ?_
      refine x_s1i dX5_nextToken_118 okX5_isLetter ml_X5_182 (Nat.le_of_ble_eq_true rfl) ⟨by decide, by decide⟩ (Nat.le_of_ble_eq_true rfl) (c_X5_isLetter _ ?_)
      refine x_ifeqP (tgt := 337) dX5_nextToken_121 rfl (fun h121 => ?_) (fun h121 => ?_)
      · skip
        exact x_retv dX5_nextToken_337 rfl (by have hr2 : rn isLt b (L - s) s = i := hr.trans (by rw [rn, if_neg (show ¬ isLt (b i) = true from fun z => h121 (of_decide_eq_true z))]); exact hk σ hf (he.trans (by rw [hr2])) (hv.trans (by rw [hr2])) (by rw [hr2]; exact ha))
      · skip
        refine x_aload_n (i := 0) dX5_nextToken_124 rfl rfl ?_
        refine x_aload_n (i := 0) dX5_nextToken_125 rfl rfl ?_
        refine x_getlE (i := 13) dX5_nextToken_126 rfl rfl rfl (by decide) fl_X5_175 inX5 hv ?_
        refine x_ldc2 (v := 9999999999999) dX5_nextToken_129 kl_X5_185 ?_
        refine x_lcmp dX5_nextToken_132 ?_
        refine x_ifle (tgt := 143) dX5_nextToken_133 rfl (fun h133 => ?_) (fun h133 => ?_)
        · skip
          refine x_aload_n (i := 0) dX5_nextToken_143 rfl rfl ?_
          refine x_getlE (i := 13) dX5_nextToken_144 rfl rfl rfl (by decide) fl_X5_175 inX5 hv ?_
          refine x_ldc2 (v := 27) dX5_nextToken_147 kl_X5_187 ?_
          refine x_lmul dX5_nextToken_150 ?_
          refine x_aload_n (i := 0) dX5_nextToken_151 rfl rfl ?_
          refine x_getr (i := 8) dX5_nextToken_152 rfl rfl rfl (by decide) fl_X5_25 inX5 ?_
          refine x_aload_n (i := 0) dX5_nextToken_155 rfl rfl ?_
          refine x_getiE (i := 12) dX5_nextToken_156 rfl rfl rfl (by decide) fl_X5_169 inX5 he ?_
          refine x_ialdE dX5_nextToken_159 rfl (by omega) (by decide) ((mp_gf hp hf (by omega)).2.1 i (by omega)) ?_
          refine x_i2l dX5_nextToken_160 ?_
          refine x_ladd dX5_nextToken_161 ?_
          refine x_ldc2 (v := 96) dX5_nextToken_162 kl_X5_189 ?_
          refine x_lsub dX5_nextToken_165 ?_
          refine x_putl (i := 13) dX5_nextToken_166 rfl rfl rfl (by decide) fl_X5_175 inX5 tyX5_ok nmX5 rfl rfl ?_
          refine x_aload_n (i := 0) dX5_nextToken_169 rfl rfl ?_
          refine x_dup dX5_nextToken_170 rfl ?_
          refine x_getiE (i := 12) dX5_nextToken_171 rfl rfl rfl (by decide) fl_X5_169 inX5 (show _ = nI i from he) ?_
          refine x_iconstN (n := 1) dX5_nextToken_174 ?_
          refine x_iaddN dX5_nextToken_175 ?_
          refine x_puti (i := 12) (ty := .int) dX5_nextToken_176 rfl rfl rfl (by decide) fl_X5_169 inX5 tyX5_ok nmX5 rfl rfl rfl rfl ?_
          refine x_goto (tgt := 98) dX5_nextToken_179 rfl ?_
          obtain ⟨x, hlo, hhi, ex⟩ := vR_of h121 (by decide) (by decide)
          have hx : (b (s + (i - s))).toNatClampNeg = x := by rw [show s + (i - s) = i by omega, ex, nI_clamp (by omega)]
          have hc := lcm_le (v := wN b s (i - s)) (c := 9999999999999) (by omega) (by omega)
          exact ih (i + 1) _ (by omega) (by omega) xp_s (by rw [show i + 1 - s = (i - s) + 1 by omega, wN, if_neg (Nat.not_lt.mpr (hc.mp h133)), hx]; refine xl_s2.trans ?_; rw [ex]; exact w_step hlo hhi) (hr.trans (by rw [rn, if_pos (show isLt (b i) = true from decide_eq_true h121), show L - (i + 1) = n by omega])) (fun j hj => if e : s + j = i then ⟨x, hlo, hhi, by rw [e]; exact ex⟩ else ha j (by omega)) (gf_tr hf (gf_tr gf_l (gf_p (by omega))))
        · skip
          refine x_aload_n (i := 0) dX5_nextToken_136 rfl rfl ?_
          refine x_getlE (i := 13) dX5_nextToken_137 rfl rfl rfl (by decide) fl_X5_175 inX5 hv ?_
          refine x_goto (tgt := 166) dX5_nextToken_140 rfl ?_
          refine x_putl (i := 13) dX5_nextToken_166 rfl rfl rfl (by decide) fl_X5_175 inX5 tyX5_ok nmX5 rfl rfl ?_
          refine x_aload_n (i := 0) dX5_nextToken_169 rfl rfl ?_
          refine x_dup dX5_nextToken_170 rfl ?_
          refine x_getiE (i := 12) dX5_nextToken_171 rfl rfl rfl (by decide) fl_X5_169 inX5 (show _ = nI i from he) ?_
          refine x_iconstN (n := 1) dX5_nextToken_174 ?_
          refine x_iaddN dX5_nextToken_175 ?_
          refine x_puti (i := 12) (ty := .int) dX5_nextToken_176 rfl rfl rfl (by decide) fl_X5_169 inX5 tyX5_ok nmX5 rfl rfl rfl rfl ?_
          refine x_goto (tgt := 98) dX5_nextToken_179 rfl ?_
          obtain ⟨x, hlo, hhi, ex⟩ := vR_of h121 (by decide) (by decide)
          have hx : (b (s + (i - s))).toNatClampNeg = x := by rw [show s + (i - s) = i by omega, ex, nI_clamp (by omega)]
          have hc := lcm_le (v := wN b s (i - s)) (c := 9999999999999) (by omega) (by omega)
          exact ih (i + 1) _ (by omega) (by omega) xp_s (by rw [show i + 1 - s = (i - s) + 1 by omega, wN, if_pos (Nat.not_le.mp (fun z => h133 (hc.mpr z)))]; exact xl_s2) (hr.trans (by rw [rn, if_pos (show isLt (b i) = true from decide_eq_true h121), show L - (i + 1) = n by omega])) (fun j hj => if e : s + j = i then ⟨x, hlo, hhi, by rw [e]; exact ex⟩ else ha j (by omega)) (gf_tr hf (gf_tr gf_l (gf_p (by omega))))
set_option maxHeartbeats 4000000 in
set_option maxRecDepth 20000 in
theorem l_mk_digits {K : xH → Prop} {σ0 : xH} {b : Nat → Int32} {L s : Nat} (hp : mp σ0 b L) (hk : ∀ τ, gf 12 σ0 τ → τ.1 0 12 = nI (rn isDg b (L - s) s) → τ.2 0 13 = lN (nN b s (rn isDg b (L - s) s - s)) → (∀ j, s + j < rn isDg b (L - s) s → ∃ x, 48 ≤ x ∧ x ≤ 57 ∧ b (s + j) = nI x) → Ex l (oM ad D cy) mX5_nextToken 281 [some (.ref 0)] [] τ (xQv K)) : ∀ (n i : Nat) (σ : xH), i + n = (L + 0) → (s ≤ i) → (σ.1 0 12 = nI i) → (σ.2 0 13 = lN (nN b s (i - s))) → (rn isDg b (L - s) s = rn isDg b (L - i) i) → (∀ j, s + j < i → ∃ x, 48 ≤ x ∧ x ≤ 57 ∧ b (s + j) = nI x) → (gf 12 σ0 σ) → Ex l (oM ad D cy) mX5_nextToken 197 [some (.ref 0)] [] σ (xQv K) := by
  intro n
  induction n with
  | zero =>
    intro i σ hi hsi he hv hr ha hf
    have hi : i = (L + 0) := by omega
    subst hi
    have hL := hp.2.2
    have hr2 := hr
    rw [Nat.sub_self] at hr2
    have hr2 : rn isDg b (i - s) s = i := hr2
    refine x_aload_n (i := 0) dX5_nextToken_197 rfl rfl ?_
    refine x_getiE (i := 12) dX5_nextToken_198 rfl rfl rfl (by decide) fl_X5_169 inX5 he ?_
    refine x_aload_n (i := 0) dX5_nextToken_201 rfl rfl ?_
    refine x_getiE (i := 9) dX5_nextToken_202 rfl rfl rfl (by decide) fl_X5_166 inX5 (mp_gf hp hf (by omega)).1 ?_
    refine x_icgeN (tgt := 281) (by omega) (by omega) dX5_nextToken_205 rfl (fun h205 => ?_) (fun h205 => ?_)
    · skip
      exact hk σ hf (he.trans (by rw [hr2])) (hv.trans (by rw [hr2])) (by rw [hr2]; exact ha)
    · exact absurd h205 (by omega)
  | succ n ih =>
    intro i σ hi hsi he hv hr ha hf
    have hL := hp.2.2
    have e1 : L - i = n + 1 := by omega
    rw [e1] at hr
    have hlt := nN_lt (b := b) (s := s) (i - s) (fun j hj => ha j (by omega))
    refine x_aload_n (i := 0) dX5_nextToken_197 rfl rfl ?_
    refine x_getiE (i := 12) dX5_nextToken_198 rfl rfl rfl (by decide) fl_X5_169 inX5 he ?_
    refine x_aload_n (i := 0) dX5_nextToken_201 rfl rfl ?_
    refine x_getiE (i := 9) dX5_nextToken_202 rfl rfl rfl (by decide) fl_X5_166 inX5 (mp_gf hp hf (by omega)).1 ?_
    refine x_icgeN (tgt := 281) (by omega) (by omega) dX5_nextToken_205 rfl (fun h205 => ?_) (fun h205 => ?_)
    · exact absurd h205 (by omega)
    · skip
      refine x_aload_n (i := 0) dX5_nextToken_208 rfl rfl ?_
      refine x_getr (i := 8) dX5_nextToken_209 rfl rfl rfl (by decide) fl_X5_25 inX5 ?_
      refine x_aload_n (i := 0) dX5_nextToken_212 rfl rfl ?_
      refine x_getiE (i := 12) dX5_nextToken_213 rfl rfl rfl (by decide) fl_X5_169 inX5 he ?_
      refine x_ialdE dX5_nextToken_216 rfl (by omega) (by decide) ((mp_gf hp hf (by omega)).2.1 i (by omega)) ?_
      refine x_s1i dX5_nextToken_217 okX5_isDigit ml_X5_191 (Nat.le_of_ble_eq_true rfl) ⟨by decide, by decide⟩ (Nat.le_of_ble_eq_true rfl) (c_X5_isDigit _ ?_)
      refine x_ifeqP (tgt := 281) dX5_nextToken_220 rfl (fun h220 => ?_) (fun h220 => ?_)
      · skip
        have hr2 : rn isDg b (L - s) s = i := hr.trans (by rw [rn, if_neg (show ¬ isDg (b i) = true from fun z => h220 (of_decide_eq_true z))])
        exact hk σ hf (he.trans (by rw [hr2])) (hv.trans (by rw [hr2])) (by rw [hr2]; exact ha)
      · skip
        refine x_aload_n (i := 0) dX5_nextToken_223 rfl rfl ?_
        refine x_aload_n (i := 0) dX5_nextToken_224 rfl rfl ?_
        refine x_getlE (i := 13) dX5_nextToken_225 rfl rfl rfl (by decide) fl_X5_175 inX5 hv ?_
        refine x_ldc2 (v := 999) dX5_nextToken_228 kl_X5_194 ?_
        refine x_lcmp dX5_nextToken_231 ?_
        refine x_ifle (tgt := 242) dX5_nextToken_232 rfl (fun h232 => ?_) (fun h232 => ?_)
        · skip
          refine x_aload_n (i := 0) dX5_nextToken_242 rfl rfl ?_
          refine x_getlE (i := 13) dX5_nextToken_243 rfl rfl rfl (by decide) fl_X5_175 inX5 hv ?_
          refine x_ldc2 (v := 10) dX5_nextToken_246 kl_X5_196 ?_
          refine x_lmul dX5_nextToken_249 ?_
          refine x_aload_n (i := 0) dX5_nextToken_250 rfl rfl ?_
          refine x_getr (i := 8) dX5_nextToken_251 rfl rfl rfl (by decide) fl_X5_25 inX5 ?_
          refine x_aload_n (i := 0) dX5_nextToken_254 rfl rfl ?_
          refine x_getiE (i := 12) dX5_nextToken_255 rfl rfl rfl (by decide) fl_X5_169 inX5 he ?_
          refine x_ialdE dX5_nextToken_258 rfl (by omega) (by decide) ((mp_gf hp hf (by omega)).2.1 i (by omega)) ?_
          refine x_i2l dX5_nextToken_259 ?_
          refine x_ladd dX5_nextToken_260 ?_
          refine x_ldc2 (v := 48) dX5_nextToken_261 kl_X5_198 ?_
          refine x_lsub dX5_nextToken_264 ?_
          refine x_putl (i := 13) dX5_nextToken_265 rfl rfl rfl (by decide) fl_X5_175 inX5 tyX5_ok nmX5 rfl rfl ?_
          refine x_aload_n (i := 0) dX5_nextToken_268 rfl rfl ?_
          refine x_dup dX5_nextToken_269 rfl ?_
          refine x_getiE (i := 12) dX5_nextToken_270 rfl rfl rfl (by decide) fl_X5_169 inX5 (show _ = nI i from he) ?_
          refine x_iconstN (n := 1) dX5_nextToken_273 ?_
          refine x_iaddN dX5_nextToken_274 ?_
          refine x_puti (i := 12) (ty := .int) dX5_nextToken_275 rfl rfl rfl (by decide) fl_X5_169 inX5 tyX5_ok nmX5 rfl rfl rfl rfl ?_
          refine x_goto (tgt := 197) dX5_nextToken_278 rfl ?_
          obtain ⟨x, hlo, hhi, ex⟩ := vR_of h220 (by decide) (by decide)
          have hx : (b (s + (i - s))).toNatClampNeg = x := by rw [show s + (i - s) = i by omega, ex, nI_clamp (by omega)]
          have hc := lcm_le (v := nN b s (i - s)) (c := 999) (by omega) (by omega)
          exact ih (i + 1) _ (by omega) (by omega) xp_s (by rw [show i + 1 - s = (i - s) + 1 by omega, nN, if_neg (Nat.not_lt.mpr (hc.mp h232)), hx]; refine xl_s2.trans ?_; rw [ex]; exact n_step hlo hhi) (hr.trans (by rw [rn, if_pos (show isDg (b i) = true from decide_eq_true h220), show L - (i + 1) = n by omega])) (fun j hj => if e : s + j = i then ⟨x, hlo, hhi, by rw [e]; exact ex⟩ else ha j (by omega)) (gf_tr hf (gf_tr gf_l (gf_p (by omega))))
        · skip
          refine x_aload_n (i := 0) dX5_nextToken_235 rfl rfl ?_
          refine x_getlE (i := 13) dX5_nextToken_236 rfl rfl rfl (by decide) fl_X5_175 inX5 hv ?_
          refine x_goto (tgt := 265) dX5_nextToken_239 rfl ?_
          refine x_putl (i := 13) dX5_nextToken_265 rfl rfl rfl (by decide) fl_X5_175 inX5 tyX5_ok nmX5 rfl rfl ?_
          refine x_aload_n (i := 0) dX5_nextToken_268 rfl rfl ?_
          refine x_dup dX5_nextToken_269 rfl ?_
          refine x_getiE (i := 12) dX5_nextToken_270 rfl rfl rfl (by decide) fl_X5_169 inX5 (show _ = nI i from he) ?_
          refine x_iconstN (n := 1) dX5_nextToken_273 ?_
          refine x_iaddN dX5_nextToken_274 ?_
          refine x_puti (i := 12) (ty := .int) dX5_nextToken_275 rfl rfl rfl (by decide) fl_X5_169 inX5 tyX5_ok nmX5 rfl rfl rfl rfl ?_
          refine x_goto (tgt := 197) dX5_nextToken_278 rfl ?_
          obtain ⟨x, hlo, hhi, ex⟩ := vR_of h220 (by decide) (by decide)
          have hx : (b (s + (i - s))).toNatClampNeg = x := by rw [show s + (i - s) = i by omega, ex, nI_clamp (by omega)]
          have hc := lcm_le (v := nN b s (i - s)) (c := 999) (by omega) (by omega)
          exact ih (i + 1) _ (by omega) (by omega) xp_s (by rw [show i + 1 - s = (i - s) + 1 by omega, nN, if_pos (Nat.not_le.mp (fun z => h232 (hc.mpr z)))]; exact xl_s2) (hr.trans (by rw [rn, if_pos (show isDg (b i) = true from decide_eq_true h220), show L - (i + 1) = n by omega])) (fun j hj => if e : s + j = i then ⟨x, hlo, hhi, by rw [e]; exact ex⟩ else ha j (by omega)) (gf_tr hf (gf_tr gf_l (gf_p (by omega))))
end
