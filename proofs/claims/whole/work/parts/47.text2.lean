section
variable {l : Launch} {ad : Nat → Nat} {D : va_G} {cy : Nat → ClassId}
theorem kS_e {b : Nat → Int32} {L s : Nat} (h : ¬ s < L) : kS b L s = 0 ∧ eS b L s = s ∧ vS b L s = 0 := ⟨if_neg h, if_neg h, if_neg h⟩
theorem kS_w {b : Nat → Int32} {L s : Nat} (h : s < L) (h1 : isLt (b s) = true) : kS b L s = 1 ∧ eS b L s = rn isLt b (L - s) s ∧ vS b L s = 0 := by
  unfold kS eS vS
  rw [if_pos h, if_pos h, if_pos h, if_pos h1, if_pos h1, if_pos h1]
  exact ⟨rfl, rfl, rfl⟩
theorem kS_d {b : Nat → Int32} {L s : Nat} (h : s < L) (h1 : ¬ isLt (b s) = true) (h2 : isDg (b s) = true) : kS b L s = 2 ∧ eS b L s = rn isDg b (L - s) s ∧ vS b L s = dV b s (rn isDg b (L - s) s - s) := by
  have e : eS b L s = rn isDg b (L - s) s := by unfold eS; rw [if_pos h, if_neg h1, if_pos h2]
  refine ⟨?_, e, ?_⟩
  · unfold kS; rw [if_pos h, if_neg h1, if_pos h2]
  · unfold vS; rw [if_pos h, if_neg h1, if_pos h2, e]
theorem kS_o {b : Nat → Int32} {L s : Nat} (h : s < L) (h1 : ¬ isLt (b s) = true) (h2 : ¬ isDg (b s) = true) : kS b L s = (if b s = nI 59 then 3 else 4) ∧ eS b L s = s + 1 ∧ vS b L s = 0 := by
  unfold kS eS vS
  rw [if_pos h, if_pos h, if_pos h, if_neg h1, if_neg h1, if_neg h1, if_neg h2, if_neg h2, if_neg h2]
  exact ⟨rfl, rfl, rfl⟩
theorem cT_of {σ : xH} {b : Nat → Int32} {L s k e v : Nat} (h : kS b L s = k ∧ eS b L s = e ∧ vS b L s = v) (a2 : σ.1 19 2 = nI k) (a3 : σ.1 19 3 = nI s) (a4 : σ.1 19 4 = nI e) (a5 : σ.1 19 5 = nI v) : cT σ b L s := by
  unfold cT
  rw [h.1, h.2.1, h.2.2]
  exact ⟨a2, a3, a4, a5⟩
theorem isLt_t {x : Int32} (h : vR (nI 97) (nI 122) x) : isLt x = true := decide_eq_true h
theorem isLt_f {x : Int32} (h : ¬ vR (nI 97) (nI 122) x) : ¬ isLt x = true := fun z => h (of_decide_eq_true z)
theorem isDg_t {x : Int32} (h : vR (nI 48) (nI 57) x) : isDg x = true := decide_eq_true h
theorem isDg_f {x : Int32} (h : ¬ vR (nI 48) (nI 57) x) : ¬ isDg x = true := fun z => h (of_decide_eq_true z)
set_option maxHeartbeats 4000000 in
set_option maxRecDepth 20000 in
theorem c_X2_nextToken {σ : xH} {K : xH → Prop} {b : Nat → Int32} {L e : Nat} (hp : tp σ b L) (he : e ≤ L) (hE : σ.1 19 4 = nI e) (hk : ∀ τ, cT τ b L (tSt b L e) → ff 2 σ τ → K τ) : Evv l (oC ad D cy) mX2_nextToken [.ref 19] σ K := by
  refine x_enter (ls := [some (.ref 19)]) rfl ?_
  refine x_aload_n (i := 0) dX2_nextToken_0 rfl rfl ?_
  refine x_aload_n (i := 0) dX2_nextToken_1 rfl rfl ?_
  refine x_getiE (i := 4) dX2_nextToken_2 rfl rfl rfl (by decide) fl_X2_19 inX2 hE ?_
  refine x_puti (i := 3) (ty := .int) dX2_nextToken_5 rfl rfl rfl (by decide) fl_X2_29 inX2 tyX2_ok nmX2 rfl rfl rfl rfl ?_
  refine l_tk1 (e := e) (tp_ff hp (ff_p (k := 3) (by omega)) (by omega)) (fun τ hf hs => ?_) (L - e) e _ (by omega) xp_s rfl (ff_rf 3 _)
  have hsl := (tSt_le (b := b) he).2
  generalize tSt b L e = s at hs hk hsl
  have hL := hp.2.2
  refine x_aload_n (i := 0) dX2_nextToken_46 rfl rfl ?_
  refine x_aload_n (i := 0) dX2_nextToken_47 rfl rfl ?_
  refine x_getiE (i := 3) dX2_nextToken_48 rfl rfl rfl (by decide) fl_X2_29 inX2 hs ?_
  refine x_puti (i := 4) (ty := .int) dX2_nextToken_51 rfl rfl rfl (by decide) fl_X2_19 inX2 tyX2_ok nmX2 rfl rfl rfl rfl ?_
  refine x_aload_n (i := 0) dX2_nextToken_54 rfl rfl ?_
  refine x_iconstN (n := 0) dX2_nextToken_55 ?_
  refine x_puti (i := 5) (ty := .int) dX2_nextToken_56 rfl rfl rfl (by decide) fl_X2_59 inX2 tyX2_ok nmX2 rfl rfl rfl rfl ?_
  have a3 : (xpi (xpi τ 19 4 (nI s)) 19 5 (nI 0)).1 19 3 = nI s := by rw [xp_o (by omega), xp_o (by omega)]; exact hs
  have a4 : (xpi (xpi τ 19 4 (nI s)) 19 5 (nI 0)).1 19 4 = nI s := by rw [xp_o (by omega)]; exact xp_s
  have a5 : (xpi (xpi τ 19 4 (nI s)) 19 5 (nI 0)).1 19 5 = nI 0 := xp_s
  have hfu : ff 2 σ (xpi (xpi τ 19 4 (nI s)) 19 5 (nI 0)) := ff_tr (ff_p (j := 3) (by omega)) (ff_tr (ff_le hf (by omega)) (ff_tr (ff_p (by omega)) (ff_p (by omega))))
  have hpu := tp_ff hp hfu (by omega)
  generalize xpi (xpi τ 19 4 (nI s)) 19 5 (nI 0) = υ at a3 a4 a5 hfu hpu ⊢
  refine x_aload_n (i := 0) dX2_nextToken_59 rfl rfl ?_
  refine x_getiE (i := 3) dX2_nextToken_60 rfl rfl rfl (by decide) fl_X2_29 inX2 a3 ?_
  refine x_aload_n (i := 0) dX2_nextToken_63 rfl rfl ?_
  refine x_getiE (i := 1) dX2_nextToken_64 rfl rfl rfl (by decide) fl_X2_15 inX2 hpu.1 ?_
  refine x_icltN (tgt := 78) (by omega) (by omega) dX2_nextToken_67 rfl (fun h67 => ?_) (fun h67 => ?_)
  · skip
    refine x_aload_n (i := 0) dX2_nextToken_78 rfl rfl ?_
    refine x_getr (i := 0) dX2_nextToken_79 rfl rfl rfl (by decide) fl_X2_9 inX2 ?_
    refine x_aload_n (i := 0) dX2_nextToken_82 rfl rfl ?_
    refine x_getiE (i := 3) dX2_nextToken_83 rfl rfl rfl (by decide) fl_X2_29 inX2 a3 ?_
    refine x_ialdE dX2_nextToken_86 rfl (by omega) (by decide) (hpu.2.1 s (by omega)) ?_
    refine x_s1i dX2_nextToken_87 okX2_isLetter ml_X2_118 (Nat.le_of_ble_eq_true rfl) ⟨by decide, by decide⟩ (Nat.le_of_ble_eq_true rfl) (c_X2_isLetter _ ?_)
    refine x_ifeqP (tgt := 137) dX2_nextToken_90 rfl (fun h90 => ?_) (fun h90 => ?_)
    · skip
      refine x_aload_n (i := 0) dX2_nextToken_137 rfl rfl ?_
      refine x_getr (i := 0) dX2_nextToken_138 rfl rfl rfl (by decide) fl_X2_9 inX2 ?_
      refine x_aload_n (i := 0) dX2_nextToken_141 rfl rfl ?_
      refine x_getiE (i := 3) dX2_nextToken_142 rfl rfl rfl (by decide) fl_X2_29 inX2 a3 ?_
      refine x_ialdE dX2_nextToken_145 rfl (by omega) (by decide) (hpu.2.1 s (by omega)) ?_
      refine x_s1i dX2_nextToken_146 okX2_isDigit ml_X2_122 (Nat.le_of_ble_eq_true rfl) ⟨by decide, by decide⟩ (Nat.le_of_ble_eq_true rfl) (c_X2_isDigit _ ?_)
      refine x_ifeqP (tgt := 164) dX2_nextToken_149 rfl (fun h149 => ?_) (fun h149 => ?_)
      · skip
        refine x_aload_n (i := 0) dX2_nextToken_164 rfl rfl ?_
        refine x_aload_n (i := 0) dX2_nextToken_165 rfl rfl ?_
        refine x_getr (i := 0) dX2_nextToken_166 rfl rfl rfl (by decide) fl_X2_9 inX2 ?_
        refine x_aload_n (i := 0) dX2_nextToken_169 rfl rfl ?_
        refine x_getiE (i := 3) dX2_nextToken_170 rfl rfl rfl (by decide) fl_X2_29 inX2 a3 ?_
        refine x_ialdE dX2_nextToken_173 rfl (by omega) (by decide) (hpu.2.1 s (by omega)) ?_
        refine x_bipush (v := nI 59) dX2_nextToken_174 (by decide) ?_
        refine x_icne (tgt := 183) dX2_nextToken_176 rfl (fun h176 => ?_) (fun h176 => ?_)
        · skip
          refine x_iconstN (n := 4) dX2_nextToken_183 ?_
          refine x_puti (i := 2) (ty := .int) dX2_nextToken_184 rfl rfl rfl (by decide) fl_X2_32 inX2 tyX2_ok nmX2 rfl rfl rfl rfl ?_
          refine x_aload_n (i := 0) dX2_nextToken_187 rfl rfl ?_
          refine x_aload_n (i := 0) dX2_nextToken_188 rfl rfl ?_
          refine x_getiE (i := 3) dX2_nextToken_189 rfl rfl rfl (by decide) fl_X2_29 inX2 (show _ = nI s by rw [xp_o (by omega)]; exact a3) ?_
          refine x_iconstN (n := 1) dX2_nextToken_192 ?_
          refine x_iaddN dX2_nextToken_193 ?_
          refine x_puti (i := 4) (ty := .int) dX2_nextToken_194 rfl rfl rfl (by decide) fl_X2_19 inX2 tyX2_ok nmX2 rfl rfl rfl rfl ?_
          exact x_retv dX2_nextToken_197 rfl (hk _ (cT_of (kS_o (by omega) (isLt_f h90) (isDg_f h149)) (by first | (rw [xp_o (by omega), xp_s, if_pos h176]) | (rw [xp_o (by omega), xp_s, if_neg h176])) (by rw [xp_o (by omega), xp_o (by omega)]; exact a3) xp_s (by rw [xp_o (by omega), xp_o (by omega)]; exact a5)) (ff_tr hfu (ff_tr (ff_p (by omega)) (ff_p (by omega)))))
        · skip
          refine x_iconstN (n := 3) dX2_nextToken_179 ?_
          refine x_goto (tgt := 184) dX2_nextToken_180 rfl ?_
          refine x_puti (i := 2) (ty := .int) dX2_nextToken_184 rfl rfl rfl (by decide) fl_X2_32 inX2 tyX2_ok nmX2 rfl rfl rfl rfl ?_
          refine x_aload_n (i := 0) dX2_nextToken_187 rfl rfl ?_
          refine x_aload_n (i := 0) dX2_nextToken_188 rfl rfl ?_
          refine x_getiE (i := 3) dX2_nextToken_189 rfl rfl rfl (by decide) fl_X2_29 inX2 (show _ = nI s by rw [xp_o (by omega)]; exact a3) ?_
          refine x_iconstN (n := 1) dX2_nextToken_192 ?_
          refine x_iaddN dX2_nextToken_193 ?_
          refine x_puti (i := 4) (ty := .int) dX2_nextToken_194 rfl rfl rfl (by decide) fl_X2_19 inX2 tyX2_ok nmX2 rfl rfl rfl rfl ?_
          exact x_retv dX2_nextToken_197 rfl (hk _ (cT_of (kS_o (by omega) (isLt_f h90) (isDg_f h149)) (by first | (rw [xp_o (by omega), xp_s, if_pos h176]) | (rw [xp_o (by omega), xp_s, if_neg h176])) (by rw [xp_o (by omega), xp_o (by omega)]; exact a3) xp_s (by rw [xp_o (by omega), xp_o (by omega)]; exact a5)) (ff_tr hfu (ff_tr (ff_p (by omega)) (ff_p (by omega)))))
      · skip
        refine x_aload_n (i := 0) dX2_nextToken_152 rfl rfl ?_
        refine x_iconstN (n := 2) dX2_nextToken_153 ?_
        refine x_puti (i := 2) (ty := .int) dX2_nextToken_154 rfl rfl rfl (by decide) fl_X2_32 inX2 tyX2_ok nmX2 rfl rfl rfl rfl ?_
        refine x_aload_n (i := 0) dX2_nextToken_157 rfl rfl ?_
        refine x_v0v dX2_nextToken_158 okX2_readNumber ml_X2_125 rfl rfl (Nat.le_of_ble_eq_true rfl) ⟨by decide, by decide⟩ (Nat.le_of_ble_eq_true rfl) (c_X2_readNumber (s := s) (tp_ff hpu (ff_p (k := 2) (by omega)) (by omega)) hsl (by rw [xp_o (by omega)]; exact a4) (by rw [xp_o (by omega)]; exact a5) (fun ω hfo he5 hv5 => ?_))
        refine x_goto (tgt := 197) dX2_nextToken_161 rfl ?_
        exact x_retv dX2_nextToken_197 rfl (hk _ (cT_of (kS_d (by omega) (isLt_f h90) (isDg_t h149)) (by rw [hfo.2.2 2 (by omega)]; exact xp_s) (by rw [hfo.2.2 3 (by omega), xp_o (by omega)]; exact a3) he5 hv5) (ff_tr hfu (ff_tr (ff_p (by omega)) (ff_le hfo (by omega)))))
    · skip
      refine x_aload_n (i := 0) dX2_nextToken_93 rfl rfl ?_
      refine x_iconstN (n := 1) dX2_nextToken_94 ?_
      refine x_puti (i := 2) (ty := .int) dX2_nextToken_95 rfl rfl rfl (by decide) fl_X2_32 inX2 tyX2_ok nmX2 rfl rfl rfl rfl ?_
      refine l_tk2 (s := s) (tp_ff hpu (ff_p (k := 2) (by omega)) (by omega)) (fun ω hfo he5 hv5 => hk ω (cT_of (kS_w (by omega) (isLt_t h90)) (by rw [hfo.2.2 2 (by omega)]; exact xp_s) (by rw [hfo.2.2 3 (by omega), xp_o (by omega)]; exact a3) he5 hv5) (ff_tr hfu (ff_tr (ff_p (by omega)) (ff_le hfo (by omega))))) (L - s) s _ (by omega) (by rw [xp_o (by omega)]; exact a4) (by rw [xp_o (by omega)]; exact a5) rfl (ff_rf 4 _)
  · skip
    refine x_aload_n (i := 0) dX2_nextToken_70 rfl rfl ?_
    refine x_iconstN (n := 0) dX2_nextToken_71 ?_
    refine x_puti (i := 2) (ty := .int) dX2_nextToken_72 rfl rfl rfl (by decide) fl_X2_32 inX2 tyX2_ok nmX2 rfl rfl rfl rfl ?_
    refine x_goto (tgt := 197) dX2_nextToken_75 rfl ?_
    exact x_retv dX2_nextToken_197 rfl (hk _ (cT_of (kS_e (by omega)) xp_s (by rw [xp_o (by omega)]; exact a3) (by rw [xp_o (by omega)]; exact a4) (by rw [xp_o (by omega)]; exact a5)) (ff_tr hfu (ff_p (by omega))))
end
