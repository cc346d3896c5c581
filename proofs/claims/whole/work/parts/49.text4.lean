section
variable {l : Launch} {ad : Nat → Nat} {D : va_G} {cy : Nat → ClassId}
theorem mT_of {σ : xH} {b : Nat → Int32} {L s k e : Nat} (h : kS b L s = k ∧ eS b L s = e) (a2 : σ.1 0 10 = nI (if k = 2 ∧ 999 < nN b s (e - s) then 4 else k)) (a3 : σ.1 0 11 = nI s) (a4 : σ.1 0 12 = nI e) (a5 : k = 1 → σ.2 0 13 = lN (wN b s (e - s))) (a6 : k = 2 → σ.2 0 13 = lN (nN b s (e - s))) : mT σ b L s := by
  unfold mT mk
  rw [h.1, h.2]
  exact ⟨a2, a3, a4, a5, a6⟩
theorem if12 {k x : Nat} {p : Prop} [Decidable p] (h : k ≠ 2) : (if k = 2 ∧ p then x else k) = k := if_neg (fun z => h z.1)
set_option maxHeartbeats 4000000 in
set_option maxRecDepth 20000 in
theorem c_X5_nextToken {σ : xH} {K : xH → Prop} {b : Nat → Int32} {L e : Nat} (hp : mp σ b L) (he : e ≤ L) (hE : σ.1 0 12 = nI e) (hk : ∀ τ, mT τ b L (tSt b L e) → gf 10 σ τ → K τ) : Evv l (oM ad D cy) mX5_nextToken [.ref 0] σ K := by
  refine x_enter (ls := [some (.ref 0)]) rfl ?_
  refine x_aload_n (i := 0) dX5_nextToken_0 rfl rfl ?_
  refine x_aload_n (i := 0) dX5_nextToken_1 rfl rfl ?_
  refine x_getiE (i := 12) dX5_nextToken_2 rfl rfl rfl (by decide) fl_X5_169 inX5 hE ?_
  refine x_puti (i := 11) (ty := .int) dX5_nextToken_5 rfl rfl rfl (by decide) fl_X5_172 inX5 tyX5_ok nmX5 rfl rfl rfl rfl ?_
  refine l_mk1 (e := e) (mp_gf hp (gf_p (k := 10) (j := 11) (by omega)) (by omega)) (fun τ hf hs => ?_) (L - e) e _ (by omega) xp_s rfl (gf_rf 11 _)
  have hsl := (tSt_le (b := b) he).2
  generalize tSt b L e = s at hs hk hsl
  have hL := hp.2.2
  refine x_aload_n (i := 0) dX5_nextToken_46 rfl rfl ?_
  refine x_aload_n (i := 0) dX5_nextToken_47 rfl rfl ?_
  refine x_getiE (i := 11) dX5_nextToken_48 rfl rfl rfl (by decide) fl_X5_172 inX5 hs ?_
  refine x_puti (i := 12) (ty := .int) dX5_nextToken_51 rfl rfl rfl (by decide) fl_X5_169 inX5 tyX5_ok nmX5 rfl rfl rfl rfl ?_
  refine x_aload_n (i := 0) dX5_nextToken_54 rfl rfl ?_
  refine x_lconst (v := 0) dX5_nextToken_55 (by decide) ?_
  refine x_putl (i := 13) dX5_nextToken_56 rfl rfl rfl (by decide) fl_X5_175 inX5 tyX5_ok nmX5 rfl rfl ?_
  have a3 : (xpl (xpi τ 0 12 (nI s)) 0 13 0).1 0 11 = nI s := (show (xpi τ 0 12 (nI s)).1 0 11 = nI s by rw [xp_o (by omega)]; exact hs)
  have a4 : (xpl (xpi τ 0 12 (nI s)) 0 13 0).1 0 12 = nI s := (xp_s : (xpi τ 0 12 (nI s)).1 0 12 = nI s)
  have a5 : (xpl (xpi τ 0 12 (nI s)) 0 13 0).2 0 13 = lN 0 := xl_s
  have hfu : gf 10 σ (xpl (xpi τ 0 12 (nI s)) 0 13 0) := gf_tr (gf_p (j := 11) (by omega)) (gf_tr (gf_le hf (by omega)) (gf_tr (gf_p (by omega)) gf_l))
  have hpu := mp_gf hp hfu (by omega)
  generalize xpl (xpi τ 0 12 (nI s)) 0 13 0 = υ at a3 a4 a5 hfu hpu ⊢
  refine x_aload_n (i := 0) dX5_nextToken_59 rfl rfl ?_
  refine x_getiE (i := 11) dX5_nextToken_60 rfl rfl rfl (by decide) fl_X5_172 inX5 a3 ?_
  refine x_aload_n (i := 0) dX5_nextToken_63 rfl rfl ?_
  refine x_getiE (i := 9) dX5_nextToken_64 rfl rfl rfl (by decide) fl_X5_166 inX5 hpu.1 ?_
  refine x_icneN (tgt := 78) (by omega) (by omega) dX5_nextToken_67 rfl (fun h67 => ?_) (fun h67 => ?_)
  · skip
    refine x_aload_n (i := 0) dX5_nextToken_78 rfl rfl ?_
    refine x_getr (i := 8) dX5_nextToken_79 rfl rfl rfl (by decide) fl_X5_25 inX5 ?_
    refine x_aload_n (i := 0) dX5_nextToken_82 rfl rfl ?_
    refine x_getiE (i := 11) dX5_nextToken_83 rfl rfl rfl (by decide) fl_X5_172 inX5 a3 ?_
    refine x_ialdE dX5_nextToken_86 rfl (by omega) (by decide) (hpu.2.1 s (by omega)) ?_
    refine x_s1i dX5_nextToken_87 okX5_isLetter ml_X5_182 (Nat.le_of_ble_eq_true rfl) ⟨by decide, by decide⟩ (Nat.le_of_ble_eq_true rfl) (c_X5_isLetter _ ?_)
    refine x_ifeqP (tgt := 182) dX5_nextToken_90 rfl (fun h90 => ?_) (fun h90 => ?_)
    · skip
      refine x_aload_n (i := 0) dX5_nextToken_182 rfl rfl ?_
      refine x_getr (i := 8) dX5_nextToken_183 rfl rfl rfl (by decide) fl_X5_25 inX5 ?_
      refine x_aload_n (i := 0) dX5_nextToken_186 rfl rfl ?_
      refine x_getiE (i := 11) dX5_nextToken_187 rfl rfl rfl (by decide) fl_X5_172 inX5 a3 ?_
      refine x_ialdE dX5_nextToken_190 rfl (by omega) (by decide) (hpu.2.1 s (by omega)) ?_
      refine x_s1i dX5_nextToken_191 okX5_isDigit ml_X5_191 (Nat.le_of_ble_eq_true rfl) ⟨by decide, by decide⟩ (Nat.le_of_ble_eq_true rfl) (c_X5_isDigit _ ?_)
      refine x_ifeqP (tgt := 304) dX5_nextToken_194 rfl (fun h194 => ?_) (fun h194 => ?_)
      · skip
        refine x_aload_n (i := 0) dX5_nextToken_304 rfl rfl ?_
        refine x_aload_n (i := 0) dX5_nextToken_305 rfl rfl ?_
        refine x_getr (i := 8) dX5_nextToken_306 rfl rfl rfl (by decide) fl_X5_25 inX5 ?_
        refine x_aload_n (i := 0) dX5_nextToken_309 rfl rfl ?_
        refine x_getiE (i := 11) dX5_nextToken_310 rfl rfl rfl (by decide) fl_X5_172 inX5 a3 ?_
        refine x_ialdE dX5_nextToken_313 rfl (by omega) (by decide) (hpu.2.1 s (by omega)) ?_
        refine x_bipush (v := nI 59) dX5_nextToken_314 (by decide) ?_
        refine x_icne (tgt := 323) dX5_nextToken_316 rfl (fun h316 => ?_) (fun h316 => ?_)
        · skip
          refine x_iconstN (n := 4) dX5_nextToken_323 ?_
          refine x_puti (i := 10) (ty := .int) dX5_nextToken_324 rfl rfl rfl (by decide) fl_X5_179 inX5 tyX5_ok nmX5 rfl rfl rfl rfl ?_
          refine x_aload_n (i := 0) dX5_nextToken_327 rfl rfl ?_
          refine x_dup dX5_nextToken_328 rfl ?_
          refine x_getiE (i := 12) dX5_nextToken_329 rfl rfl rfl (by decide) fl_X5_169 inX5 (show _ = nI s by rw [xp_o (by omega)]; exact a4) ?_
          refine x_iconstN (n := 1) dX5_nextToken_332 ?_
          refine x_iaddN dX5_nextToken_333 ?_
          refine x_puti (i := 12) (ty := .int) dX5_nextToken_334 rfl rfl rfl (by decide) fl_X5_169 inX5 tyX5_ok nmX5 rfl rfl rfl rfl ?_
          exact x_retv dX5_nextToken_337 rfl (hk _ (by first | exact mT_of (k := 3) ⟨(kS_o (by omega) (isLt_f h90) (isDg_f h194)).1.trans (if_pos h316), (kS_o (by omega) (isLt_f h90) (isDg_f h194)).2.1⟩ (by rw [if12 (by decide), xp_o (by omega)]; exact xp_s) (by rw [xp_o (by omega), xp_o (by omega)]; exact a3) xp_s (fun z => absurd z (by decide)) (fun z => absurd z (by decide)) | exact mT_of (k := 4) ⟨(kS_o (by omega) (isLt_f h90) (isDg_f h194)).1.trans (if_neg h316), (kS_o (by omega) (isLt_f h90) (isDg_f h194)).2.1⟩ (by rw [if12 (by decide), xp_o (by omega)]; exact xp_s) (by rw [xp_o (by omega), xp_o (by omega)]; exact a3) xp_s (fun z => absurd z (by decide)) (fun z => absurd z (by decide))) (gf_tr hfu (gf_tr (gf_p (by omega)) (gf_p (by omega)))))
        · skip
          refine x_iconstN (n := 3) dX5_nextToken_319 ?_
          refine x_goto (tgt := 324) dX5_nextToken_320 rfl ?_
          refine x_puti (i := 10) (ty := .int) dX5_nextToken_324 rfl rfl rfl (by decide) fl_X5_179 inX5 tyX5_ok nmX5 rfl rfl rfl rfl ?_
          refine x_aload_n (i := 0) dX5_nextToken_327 rfl rfl ?_
          refine x_dup dX5_nextToken_328 rfl ?_
          refine x_getiE (i := 12) dX5_nextToken_329 rfl rfl rfl (by decide) fl_X5_169 inX5 (show _ = nI s by rw [xp_o (by omega)]; exact a4) ?_
          refine x_iconstN (n := 1) dX5_nextToken_332 ?_
          refine x_iaddN dX5_nextToken_333 ?_
          refine x_puti (i := 12) (ty := .int) dX5_nextToken_334 rfl rfl rfl (by decide) fl_X5_169 inX5 tyX5_ok nmX5 rfl rfl rfl rfl ?_
          exact x_retv dX5_nextToken_337 rfl (hk _ (by first | exact mT_of (k := 3) ⟨(kS_o (by omega) (isLt_f h90) (isDg_f h194)).1.trans (if_pos h316), (kS_o (by omega) (isLt_f h90) (isDg_f h194)).2.1⟩ (by rw [if12 (by decide), xp_o (by omega)]; exact xp_s) (by rw [xp_o (by omega), xp_o (by omega)]; exact a3) xp_s (fun z => absurd z (by decide)) (fun z => absurd z (by decide)) | exact mT_of (k := 4) ⟨(kS_o (by omega) (isLt_f h90) (isDg_f h194)).1.trans (if_neg h316), (kS_o (by omega) (isLt_f h90) (isDg_f h194)).2.1⟩ (by rw [if12 (by decide), xp_o (by omega)]; exact xp_s) (by rw [xp_o (by omega), xp_o (by omega)]; exact a3) xp_s (fun z => absurd z (by decide)) (fun z => absurd z (by decide))) (gf_tr hfu (gf_tr (gf_p (by omega)) (gf_p (by omega)))))
      · skip
        refine l_mk_digits (s := s) hpu (fun ω hfo he5 hv5 ha5 => ?_) (L - s) s υ (by omega) (Nat.le_refl _) a4 (by rw [Nat.sub_self]; exact a5) rfl (fun j hj => absurd hj (by omega)) (gf_rf 12 υ)
        have hlt := nN_lt (b := b) (s := s) (rn isDg b (L - s) s - s) (fun j hj => ha5 j (by omega))
        have hc := lcm_le (v := nN b s (rn isDg b (L - s) s - s)) (c := 999) (by omega) (by omega)
        refine x_aload_n (i := 0) dX5_nextToken_281 rfl rfl ?_
        refine x_aload_n (i := 0) dX5_nextToken_282 rfl rfl ?_
        refine x_getlE (i := 13) dX5_nextToken_283 rfl rfl rfl (by decide) fl_X5_175 inX5 hv5 ?_
        refine x_ldc2 (v := 999) dX5_nextToken_286 kl_X5_194 ?_
        refine x_lcmp dX5_nextToken_289 ?_
        refine x_ifle (tgt := 297) dX5_nextToken_290 rfl (fun h290 => ?_) (fun h290 => ?_)
        · skip
          refine x_iconstN (n := 2) dX5_nextToken_297 ?_
          refine x_puti (i := 10) (ty := .int) dX5_nextToken_298 rfl rfl rfl (by decide) fl_X5_179 inX5 tyX5_ok nmX5 rfl rfl rfl rfl ?_
          refine x_goto (tgt := 337) dX5_nextToken_301 rfl ?_
          exact x_retv dX5_nextToken_337 rfl (hk _ (mT_of ⟨(kS_d (by omega) (isLt_f h90) (isDg_t h194)).1, (kS_d (by omega) (isLt_f h90) (isDg_t h194)).2.1⟩ (by first | (rw [xp_s, if_neg (fun z => absurd z.2 (Nat.not_lt.mpr (hc.mp h290)))]) | (rw [xp_s, if_pos ⟨rfl, Nat.not_le.mp (fun z => h290 (hc.mpr z))⟩])) (by rw [xp_o (by omega), hfo.2.1 11 (by omega)]; exact a3) (by rw [xp_o (by omega)]; exact he5) (fun z => absurd z (by decide)) (fun _ => hv5)) (gf_tr hfu (gf_tr (gf_le hfo (by omega)) (gf_p (by omega)))))
        · skip
          refine x_iconstN (n := 4) dX5_nextToken_293 ?_
          refine x_goto (tgt := 298) dX5_nextToken_294 rfl ?_
          refine x_puti (i := 10) (ty := .int) dX5_nextToken_298 rfl rfl rfl (by decide) fl_X5_179 inX5 tyX5_ok nmX5 rfl rfl rfl rfl ?_
          refine x_goto (tgt := 337) dX5_nextToken_301 rfl ?_
          exact x_retv dX5_nextToken_337 rfl (hk _ (mT_of ⟨(kS_d (by omega) (isLt_f h90) (isDg_t h194)).1, (kS_d (by omega) (isLt_f h90) (isDg_t h194)).2.1⟩ (by first | (rw [xp_s, if_neg (fun z => absurd z.2 (Nat.not_lt.mpr (hc.mp h290)))]) | (rw [xp_s, if_pos ⟨rfl, Nat.not_le.mp (fun z => h290 (hc.mpr z))⟩])) (by rw [xp_o (by omega), hfo.2.1 11 (by omega)]; exact a3) (by rw [xp_o (by omega)]; exact he5) (fun z => absurd z (by decide)) (fun _ => hv5)) (gf_tr hfu (gf_tr (gf_le hfo (by omega)) (gf_p (by omega)))))
    · skip
      refine x_aload_n (i := 0) dX5_nextToken_93 rfl rfl ?_
      refine x_iconstN (n := 1) dX5_nextToken_94 ?_
      refine x_puti (i := 10) (ty := .int) dX5_nextToken_95 rfl rfl rfl (by decide) fl_X5_179 inX5 tyX5_ok nmX5 rfl rfl rfl rfl ?_
      refine l_mk_letters (s := s) (mp_gf hpu (gf_p (k := 10) (by omega)) (by omega)) (fun ω hfo he5 hv5 ha5 => hk ω (mT_of ⟨(kS_w (by omega) (isLt_t h90)).1, (kS_w (by omega) (isLt_t h90)).2.1⟩ (by rw [if12 (by decide), hfo.2.1 10 (by omega)]; exact xp_s) (by rw [hfo.2.1 11 (by omega), xp_o (by omega)]; exact a3) he5 (fun _ => hv5) (fun z => absurd z (by decide))) (gf_tr hfu (gf_tr (gf_p (by omega)) (gf_le hfo (by omega))))) (L - s) s _ (by omega) (Nat.le_refl _) (by rw [xp_o (by omega)]; exact a4) (by rw [Nat.sub_self]; exact a5) rfl (fun j hj => absurd hj (by omega)) (gf_rf 12 _)
  · skip
    refine x_aload_n (i := 0) dX5_nextToken_70 rfl rfl ?_
    refine x_iconstN (n := 0) dX5_nextToken_71 ?_
    refine x_puti (i := 10) (ty := .int) dX5_nextToken_72 rfl rfl rfl (by decide) fl_X5_179 inX5 tyX5_ok nmX5 rfl rfl rfl rfl ?_
    refine x_goto (tgt := 337) dX5_nextToken_75 rfl ?_
    exact x_retv dX5_nextToken_337 rfl (hk _ (mT_of ⟨(kS_e (by omega)).1, (kS_e (by omega)).2.1⟩ (by rw [if12 (by decide)]; exact xp_s) (by rw [xp_o (by omega)]; exact a3) (by rw [xp_o (by omega)]; exact a4) (fun z => absurd z (by decide)) (fun z => absurd z (by decide))) (gf_tr hfu (gf_p (by omega))))
end
