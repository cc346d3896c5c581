section
variable {l : Launch} {ad : Nat → Nat} {D : va_G} {cy : Nat → ClassId}
theorem c_get0 {σ : xH} {K : Int32 → xH → Prop} {T : Tw} (hs : ms σ 1 T) {d : Nat} (hd : d < tN T) (hk : K (tKd T d) σ) : Evi l (oM ad D cy) mX5_get [.ref 0, .int (nI d), .int (nI 0)] σ K := c_X5_get (by have := ms_8 hs; omega) (by decide) (by have e := ms_kd hs hd; rw [← e] at hk; exact hk)
theorem c_get1 {σ : xH} {K : Int32 → xH → Prop} {T : Tw} (hs : ms σ 1 T) {d : Nat} (hd : d < tN T) (hk : K (tWs T d) σ) : Evi l (oM ad D cy) mX5_get [.ref 0, .int (nI d), .int (nI 1)] σ K := c_X5_get (by have := ms_8 hs; omega) (by decide) (by have e := ms_ws hs hd; rw [← e] at hk; exact hk)
theorem c_get2 {σ : xH} {K : Int32 → xH → Prop} {T : Tw} (hs : ms σ 1 T) {d : Nat} (hd : d < tN T) (hk : K (nI (tGo T d)) σ) : Evi l (oM ad D cy) mX5_get [.ref 0, .int (nI d), .int (nI 2)] σ K := c_X5_get (by have := ms_8 hs; omega) (by decide) (by have e := ms_go hs hd; rw [← e] at hk; exact hk)
set_option maxHeartbeats 4000000 in
set_option maxRecDepth 20000 in
theorem c_X5_tookBy {σ : xH} {K : Int32 → xH → Prop} {T : Tw} (hO : tOk T) (hs : ms σ 1 T) {d r : Nat} (hd : d < tN T) (hr : r < 3) (hk : ∀ τ, fq σ τ → K (pTime T (tKd T d) (tWs T d) r) τ) : Evi l (oM ad D cy) mX5_tookBy [.ref 0, .int (nI d), .int (nI r)] σ K := by
  refine x_enter (ls := [some (.ref 0), some (.int (nI d)), some (.int (nI r))]) rfl ?_
  obtain ⟨k, hk6, ek⟩ := hO.2.1 d hd
  obtain ⟨w, h10, h80, ew⟩ := hO.2.2.1 d hd
  refine x_aload_n (i := 0) dX5_tookBy_0 rfl rfl ?_
  refine x_aload_n (i := 0) dX5_tookBy_1 rfl rfl ?_
  refine x_iload_n (i := 1) dX5_tookBy_2 rfl rfl ?_
  refine x_iconstN (n := 0) dX5_tookBy_3 ?_
  refine x_v2i dX5_tookBy_4 okX5_get ml_X5_92 rfl rfl (Nat.le_of_ble_eq_true rfl) ⟨by decide, by decide⟩ (Nat.le_of_ble_eq_true rfl) (c_get0 hs hd ?_)
  refine x_top ek ?_
  refine x_aload_n (i := 0) dX5_tookBy_7 rfl rfl ?_
  refine x_iload_n (i := 1) dX5_tookBy_8 rfl rfl ?_
  refine x_iconstN (n := 1) dX5_tookBy_9 ?_
  refine x_v2i dX5_tookBy_10 okX5_get ml_X5_92 rfl rfl (Nat.le_of_ble_eq_true rfl) ⟨by decide, by decide⟩ (Nat.le_of_ble_eq_true rfl) (c_get1 hs hd ?_)
  refine x_top ew ?_
  refine x_iload_n (i := 2) dX5_tookBy_13 rfl rfl ?_
  refine x_v3v dX5_tookBy_14 okX5_goesThrough ml_X5_95 rfl rfl (Nat.le_of_ble_eq_true rfl) ⟨by decide, by decide⟩ (Nat.le_of_ble_eq_true rfl) (c_X5_goesThrough hO hk6 h10 h80 hr hs (fun τ hq hf => ?_))
  refine x_aload_n (i := 0) dX5_tookBy_17 rfl rfl ?_
  refine x_getiE (i := 6) dX5_tookBy_18 rfl rfl rfl (by decide) fl_X5_75 inX5 hq.2.1 ?_
  exact x_ireti dX5_tookBy_21 rfl (by rw [ek, ew] at hk; exact hk τ hf)
set_option maxHeartbeats 4000000 in
set_option maxRecDepth 20000 in
theorem c_X5_shookBy {σ : xH} {K : Int32 → xH → Prop} {T : Tw} (hO : tOk T) (hs : ms σ 1 T) {d r : Nat} (hd : d < tN T) (hr : r < 3) (hk : ∀ τ, fq σ τ → K (pShake T (tKd T d) (tWs T d) r) τ) : Evi l (oM ad D cy) mX5_shookBy [.ref 0, .int (nI d), .int (nI r)] σ K := by
  refine x_enter (ls := [some (.ref 0), some (.int (nI d)), some (.int (nI r))]) rfl ?_
  obtain ⟨k, hk6, ek⟩ := hO.2.1 d hd
  obtain ⟨w, h10, h80, ew⟩ := hO.2.2.1 d hd
  refine x_aload_n (i := 0) dX5_shookBy_0 rfl rfl ?_
  refine x_aload_n (i := 0) dX5_shookBy_1 rfl rfl ?_
  refine x_iload_n (i := 1) dX5_shookBy_2 rfl rfl ?_
  refine x_iconstN (n := 0) dX5_shookBy_3 ?_
  refine x_v2i dX5_shookBy_4 okX5_get ml_X5_92 rfl rfl (Nat.le_of_ble_eq_true rfl) ⟨by decide, by decide⟩ (Nat.le_of_ble_eq_true rfl) (c_get0 hs hd ?_)
  refine x_top ek ?_
  refine x_aload_n (i := 0) dX5_shookBy_7 rfl rfl ?_
  refine x_iload_n (i := 1) dX5_shookBy_8 rfl rfl ?_
  refine x_iconstN (n := 1) dX5_shookBy_9 ?_
  refine x_v2i dX5_shookBy_10 okX5_get ml_X5_92 rfl rfl (Nat.le_of_ble_eq_true rfl) ⟨by decide, by decide⟩ (Nat.le_of_ble_eq_true rfl) (c_get1 hs hd ?_)
  refine x_top ew ?_
  refine x_iload_n (i := 2) dX5_shookBy_13 rfl rfl ?_
  refine x_v3v dX5_shookBy_14 okX5_goesThrough ml_X5_95 rfl rfl (Nat.le_of_ble_eq_true rfl) ⟨by decide, by decide⟩ (Nat.le_of_ble_eq_true rfl) (c_X5_goesThrough hO hk6 h10 h80 hr hs (fun τ hq hf => ?_))
  refine x_aload_n (i := 0) dX5_shookBy_17 rfl rfl ?_
  refine x_getiE (i := 7) dX5_shookBy_18 rfl rfl rfl (by decide) fl_X5_79 inX5 hq.2.2 ?_
  exact x_ireti dX5_shookBy_21 rfl (by rw [ek, ew] at hk; exact hk τ hf)
set_option maxHeartbeats 4000000 in
set_option maxRecDepth 20000 in
theorem l_X5_allShook {K : Int32 → xH → Prop} {σ0 : xH} {T : Tw} (hO : tOk T) (hk : ∀ τ, fq σ0 τ → K (sSum (fun d => pShake T (tKd T d) (tWs T d) (tGo T d)) (tN T)) τ) : ∀ (n i : Nat) (σ : xH) (s : Int32), i + n = tN T → (s = sSum (fun d => pShake T (tKd T d) (tWs T d) (tGo T d)) i) → (ms σ 1 T) → (fq σ0 σ) → Ex l (oM ad D cy) mX5_allShook 4 [some (.ref 0), some (.int s), some (.int (nI i))] [] σ (xQi K) := by
  intro n
  induction n with
  | zero =>
    intro i σ s hi es hs hf
    have hi : i = tN T := by omega
    subst hi
    have h8 := ms_8 hs
    refine x_iload_n (i := 2) dX5_allShook_4 rfl rfl ?_
    refine x_aload_n (i := 0) dX5_allShook_5 rfl rfl ?_
    refine x_getr (i := 0) dX5_allShook_6 rfl rfl rfl (by decide) fl_X5_9 inX5 ?_
    refine x_iconstN (n := 2) dX5_allShook_9 ?_
    refine x_ialdE dX5_allShook_10 rfl (by omega) (by decide) (ms_n hs) ?_
    refine x_icgeN (tgt := 34) (by omega) (by omega) dX5_allShook_11 rfl (fun h11 => ?_) (fun h11 => ?_)
    · skip
      refine x_iload_n (i := 1) dX5_allShook_34 rfl rfl ?_
      exact x_ireti dX5_allShook_35 rfl (es ▸ hk σ hf)
    · exact absurd h11 (by omega)
  | succ n ih =>
    intro i σ s hi es hs hf
    have h8 := ms_8 hs
    refine x_iload_n (i := 2) dX5_allShook_4 rfl rfl ?_
    refine x_aload_n (i := 0) dX5_allShook_5 rfl rfl ?_
    refine x_getr (i := 0) dX5_allShook_6 rfl rfl rfl (by decide) fl_X5_9 inX5 ?_
    refine x_iconstN (n := 2) dX5_allShook_9 ?_
    refine x_ialdE dX5_allShook_10 rfl (by omega) (by decide) (ms_n hs) ?_
    refine x_icgeN (tgt := 34) (by omega) (by omega) dX5_allShook_11 rfl (fun h11 => ?_) (fun h11 => ?_)
    · exact absurd h11 (by omega)
    · skip
      have hg := ms_g3 hs (d := i) (by omega)
      refine x_iload_n (i := 1) dX5_allShook_14 rfl rfl ?_
      refine x_aload_n (i := 0) dX5_allShook_15 rfl rfl ?_
      refine x_iload_n (i := 2) dX5_allShook_16 rfl rfl ?_
      refine x_aload_n (i := 0) dX5_allShook_17 rfl rfl ?_
      refine x_iload_n (i := 2) dX5_allShook_18 rfl rfl ?_
      refine x_iconstN (n := 2) dX5_allShook_19 ?_
      refine x_v2i dX5_allShook_20 okX5_get ml_X5_92 rfl rfl (Nat.le_of_ble_eq_true rfl) ⟨by decide, by decide⟩ (Nat.le_of_ble_eq_true rfl) (c_get2 hs (by omega) ?_)
      refine x_v2i dX5_allShook_23 okX5_shookBy ml_X5_99 rfl rfl (Nat.le_of_ble_eq_true rfl) ⟨by decide, by decide⟩ (Nat.le_of_ble_eq_true rfl) (c_X5_shookBy hO hs (by omega) (by omega) (fun τ hf1 => ?_))
      refine x_iadd dX5_allShook_26 ?_
      refine y_istore_n (i := 1) (ls2 := [_, _, _]) dX5_allShook_27 rfl (by decide) rfl rfl ?_
      refine y_iincN (i := 2) (ls2 := [_, _, _]) dX5_allShook_28 rfl (by decide) rfl rfl ?_
      refine x_goto (tgt := 4) dX5_allShook_31 rfl ?_
      exact ih (i + 1) τ _ (by omega) (by rw [es]; rfl) (ms_fq hs hf1 (by decide) (by decide)) (fq_tr hf hf1)
set_option maxHeartbeats 4000000 in
set_option maxRecDepth 20000 in
theorem c_X5_allShook {σ : xH} {K : Int32 → xH → Prop} {T : Tw} (hO : tOk T) (hs : ms σ 1 T) (hk : ∀ τ, fq σ τ → K (pShAll T) τ) : Evi l (oM ad D cy) mX5_allShook [.ref 0] σ K := by
  refine x_enter (ls := [some (.ref 0), none, none]) rfl ?_
  refine x_iconstN (n := 0) dX5_allShook_0 ?_
  refine y_istore_n (i := 1) (ls2 := [_, _, _]) dX5_allShook_1 rfl (by decide) rfl rfl ?_
  refine x_iconstN (n := 0) dX5_allShook_2 ?_
  refine y_istore_n (i := 2) (ls2 := [_, _, _]) dX5_allShook_3 rfl (by decide) rfl rfl ?_
  exact l_X5_allShook hO hk (tN T) 0 σ _ (by omega) rfl hs (fq_rf σ)
set_option maxHeartbeats 4000000 in
set_option maxRecDepth 20000 in
theorem l_X5_allTook {K : Int32 → xH → Prop} {σ0 : xH} {T : Tw} (hO : tOk T) (hk : ∀ τ, fq σ0 τ → K (sSum (fun d => pTime T (tKd T d) (tWs T d) (tGo T d)) (tN T)) τ) : ∀ (n i : Nat) (σ : xH) (s : Int32), i + n = tN T → (s = sSum (fun d => pTime T (tKd T d) (tWs T d) (tGo T d)) i) → (ms σ 1 T) → (fq σ0 σ) → Ex l (oM ad D cy) mX5_allTook 4 [some (.ref 0), some (.int s), some (.int (nI i))] [] σ (xQi K) := by
  intro n
  induction n with
  | zero =>
    intro i σ s hi es hs hf
    have hi : i = tN T := by omega
    subst hi
    have h8 := ms_8 hs
    refine x_iload_n (i := 2) dX5_allTook_4 rfl rfl ?_
    refine x_aload_n (i := 0) dX5_allTook_5 rfl rfl ?_
    refine x_getr (i := 0) dX5_allTook_6 rfl rfl rfl (by decide) fl_X5_9 inX5 ?_
    refine x_iconstN (n := 2) dX5_allTook_9 ?_
    refine x_ialdE dX5_allTook_10 rfl (by omega) (by decide) (ms_n hs) ?_
    refine x_icgeN (tgt := 34) (by omega) (by omega) dX5_allTook_11 rfl (fun h11 => ?_) (fun h11 => ?_)
    · skip
      refine x_iload_n (i := 1) dX5_allTook_34 rfl rfl ?_
      exact x_ireti dX5_allTook_35 rfl (es ▸ hk σ hf)
    · exact absurd h11 (by omega)
  | succ n ih =>
    intro i σ s hi es hs hf
    have h8 := ms_8 hs
    refine x_iload_n (i := 2) dX5_allTook_4 rfl rfl ?_
    refine x_aload_n (i := 0) dX5_allTook_5 rfl rfl ?_
    refine x_getr (i := 0) dX5_allTook_6 rfl rfl rfl (by decide) fl_X5_9 inX5 ?_
    refine x_iconstN (n := 2) dX5_allTook_9 ?_
    refine x_ialdE dX5_allTook_10 rfl (by omega) (by decide) (ms_n hs) ?_
    refine x_icgeN (tgt := 34) (by omega) (by omega) dX5_allTook_11 rfl (fun h11 => ?_) (fun h11 => ?_)
    · exact absurd h11 (by omega)
    · skip
      have hg := ms_g3 hs (d := i) (by omega)
      refine x_iload_n (i := 1) dX5_allTook_14 rfl rfl ?_
      refine x_aload_n (i := 0) dX5_allTook_15 rfl rfl ?_
      refine x_iload_n (i := 2) dX5_allTook_16 rfl rfl ?_
      refine x_aload_n (i := 0) dX5_allTook_17 rfl rfl ?_
      refine x_iload_n (i := 2) dX5_allTook_18 rfl rfl ?_
      refine x_iconstN (n := 2) dX5_allTook_19 ?_
      refine x_v2i dX5_allTook_20 okX5_get ml_X5_92 rfl rfl (Nat.le_of_ble_eq_true rfl) ⟨by decide, by decide⟩ (Nat.le_of_ble_eq_true rfl) (c_get2 hs (by omega) ?_)
      refine x_v2i dX5_allTook_23 okX5_tookBy ml_X5_102 rfl rfl (Nat.le_of_ble_eq_true rfl) ⟨by decide, by decide⟩ (Nat.le_of_ble_eq_true rfl) (c_X5_tookBy hO hs (by omega) (by omega) (fun τ hf1 => ?_))
      refine x_iadd dX5_allTook_26 ?_
      refine y_istore_n (i := 1) (ls2 := [_, _, _]) dX5_allTook_27 rfl (by decide) rfl rfl ?_
      refine y_iincN (i := 2) (ls2 := [_, _, _]) dX5_allTook_28 rfl (by decide) rfl rfl ?_
      refine x_goto (tgt := 4) dX5_allTook_31 rfl ?_
      exact ih (i + 1) τ _ (by omega) (by rw [es]; rfl) (ms_fq hs hf1 (by decide) (by decide)) (fq_tr hf hf1)
set_option maxHeartbeats 4000000 in
set_option maxRecDepth 20000 in
theorem c_X5_allTook {σ : xH} {K : Int32 → xH → Prop} {T : Tw} (hO : tOk T) (hs : ms σ 1 T) (hk : ∀ τ, fq σ τ → K (pTmAll T) τ) : Evi l (oM ad D cy) mX5_allTook [.ref 0] σ K := by
  refine x_enter (ls := [some (.ref 0), none, none]) rfl ?_
  refine x_iconstN (n := 0) dX5_allTook_0 ?_
  refine y_istore_n (i := 1) (ls2 := [_, _, _]) dX5_allTook_1 rfl (by decide) rfl rfl ?_
  refine x_iconstN (n := 0) dX5_allTook_2 ?_
  refine y_istore_n (i := 2) (ls2 := [_, _, _]) dX5_allTook_3 rfl (by decide) rfl rfl ?_
  exact l_X5_allTook hO hk (tN T) 0 σ _ (by omega) rfl hs (fq_rf σ)
theorem ms_setGo {σ : xH} {c : Nat} {T : Tw} (h : ms σ c T) (i : Nat) {x : Nat} (hx : x < 3) : ms (xpi σ c (123 + 3 * i + 2) (nI x)) c (tDay T, tIn T, tN T, tTh T, tAg T, tKd T, tWs T, updn (tGo T) i x) := by
  obtain ⟨h1, h2, h3, h4, h5, h6, h7, h8, h9, h10⟩ := h
  refine ⟨?_, ?_, ?_, fun j hj => ?_, fun j hj => ?_, fun d hd => ?_, fun d hd => ?_, fun d hd => ?_, h9, fun d hd => ?_⟩
  · rw [xui_s]; unfold upd; rw [if_neg (by omega)]; exact h1
  · rw [xui_s]; unfold upd; rw [if_neg (by omega)]; exact h2
  · rw [xui_s]; unfold upd; rw [if_neg (by omega)]; exact h3
  · rw [xui_s]; unfold upd; rw [if_neg (by omega)]; exact h4 j hj
  · rw [xui_s]; unfold upd; rw [if_neg (by omega)]; exact h5 j hj
  · rw [xui_s]; unfold upd; rw [if_neg (by omega)]; exact h6 d hd
  · rw [xui_s]; unfold upd; rw [if_neg (by omega)]; exact h7 d hd
  · rw [xui_s]; unfold upd
    show _ = nI (updn (tGo T) i x d)
    unfold updn
    by_cases e : d = i
    · rw [if_pos (by omega), if_pos e]
    · rw [if_neg (by omega), if_neg e]; exact h8 d hd
  · show updn (tGo T) i x d < 3
    unfold updn
    by_cases e : d = i
    · rw [if_pos e]; exact hx
    · rw [if_neg e]; exact h10 d hd
theorem chA_eq (T : Tw) (i : Nat) : (tDay (chA T i), tIn (chA T i), tN (chA T i), tTh (chA T i), tAg (chA T i), tKd (chA T i), tWs (chA T i), updn (tGo (chA T i)) i (cho T i)) = chA T (i + 1) := by
  have e : updn (tGo (chA T i)) i (cho T i) = tGo (chA T (i + 1)) := by
    funext d
    show (if d = i then cho T i else if d < i then cho T d else tGo T d) = if d < i + 1 then cho T d else tGo T d
    by_cases e : d = i
    · subst e; rw [if_pos rfl, if_pos (Nat.lt_succ_self _)]
    · rw [if_neg e]
      by_cases g : d < i
      · rw [if_pos g, if_pos (by omega)]
      · rw [if_neg g, if_neg (by omega)]
  rw [e]
  rfl
theorem chA_ok {T : Tw} (h : tOk T) (i : Nat) : tOk (chA T i) := by
  obtain ⟨h1, h2, h3, h4, h5, h6, h7, h8⟩ := h
  refine ⟨h1, h2, h3, h4, h5, h6, trivial, fun d hd => ?_⟩
  show (if d < i then cho T d else tGo T d) < 3
  by_cases e : d < i
  · rw [if_pos e]; exact ch_lt _ _ _ _ (h8 d hd) 3 (Nat.le_refl _)
  · rw [if_neg e]; exact h8 d hd
theorem less_le {a b : Int32} (h : a ≤ b) : (if a < b then a else b) = a := by rw [lt_or_eq_ite, if_pos h]
theorem less_nle {a b : Int32} (h : ¬ a ≤ b) : (if a < b then a else b) = b := by rw [lt_or_eq_ite, if_neg h]
set_option maxHeartbeats 4000000 in
set_option maxRecDepth 20000 in
theorem l_X5_chooses {σ0 : xH} {K : xH → Prop} {T : Tw} (hO : tOk T) {i : Nat} (hi : i < tN T) (hk : ∀ τ, ms τ 1 (chA T (i + 1)) → fg σ0 τ → K τ) : ∀ (n r b : Nat) (s : Int32) (σ : xH), r + n = 3 → (b, s) = ch T (tKd T i) (tWs T i) (tGo T i) r → b < 3 → ms σ 1 (chA T i) → fg σ0 σ → Ex l (oM ad D cy) mX5_chooses 17 [some (.ref 0), some (.int (nI i)), some (.int (nI b)), some (.int s), some (.int (nI r)), none] [] σ (xQv K) := by
  intro n
  induction n with
  | zero =>
    intro r b s σ hr e hb hs hf
    have h8 : tN T ≤ 8 := hO.1
    have hr : r = 3 := by omega
    subst hr
    refine x_iload (i := 4) dX5_chooses_17 rfl ?_
    refine x_iconstN (n := 3) dX5_chooses_19 ?_
    refine x_icgeN (tgt := 58) (by omega) (by omega) dX5_chooses_20 rfl (fun h20 => ?_) (fun h20 => ?_)
    · skip
      refine x_aload_n (i := 0) dX5_chooses_58 rfl rfl ?_
      refine x_iload_n (i := 1) dX5_chooses_59 rfl rfl ?_
      refine x_iconstN (n := 2) dX5_chooses_60 ?_
      refine x_iload_n (i := 2) dX5_chooses_61 rfl rfl ?_
      refine x_v3v dX5_chooses_62 okX5_puts ml_X5_105 rfl rfl (Nat.le_of_ble_eq_true rfl) ⟨by decide, by decide⟩ (Nat.le_of_ble_eq_true rfl) (c_X5_puts (by omega) (by decide) _ ?_)
      exact x_retv dX5_chooses_65 rfl (hk _ (by have h := ms_setGo hs i hb; have eb : b = cho T i := congrArg Prod.fst e; rw [eb, chA_eq] at h; rw [eb]; exact h) (fg_tr hf fg_1))
    · exact absurd h20 (by omega)
  | succ n ih =>
    intro r b s σ hr e hb hs hf
    have h8 : tN T ≤ 8 := hO.1
    have hlt := ch_lt T (tKd T i) (tWs T i) (tGo T i) (hO.2.2.2.2.2.2.2 i hi) (r + 1) (by omega)
    have e2 : ch T (tKd T i) (tWs T i) (tGo T i) (r + 1) = if s ≤ pTime T (tKd T i) (tWs T i) r then (b, s) else (r, pTime T (tKd T i) (tWs T i) r) := by rw [ch, ← e]
    refine x_iload (i := 4) dX5_chooses_17 rfl ?_
    refine x_iconstN (n := 3) dX5_chooses_19 ?_
    refine x_icgeN (tgt := 58) (by omega) (by omega) dX5_chooses_20 rfl (fun h20 => ?_) (fun h20 => ?_)
    · exact absurd h20 (by omega)
    · skip
      refine x_aload_n (i := 0) dX5_chooses_23 rfl rfl ?_
      refine x_iload_n (i := 1) dX5_chooses_24 rfl rfl ?_
      refine x_iload (i := 4) dX5_chooses_25 rfl ?_
      refine x_v2i dX5_chooses_27 okX5_tookBy ml_X5_102 rfl rfl (Nat.le_of_ble_eq_true rfl) ⟨by decide, by decide⟩ (Nat.le_of_ble_eq_true rfl) (c_X5_tookBy (chA_ok hO i) hs (d := i) hi (by omega) (fun τ hf1 => ?_))
      refine y_istore (i := 5) (ls2 := [_, _, _, _, _, _]) dX5_chooses_30 (by decide) rfl rfl ?_
      refine x_iload (i := 5) dX5_chooses_32 rfl ?_
      refine x_iload_n (i := 3) dX5_chooses_34 rfl rfl ?_
      refine x_icge (tgt := 43) dX5_chooses_35 rfl (fun h35 => ?_) (fun h35 => ?_)
      · skip
        refine x_iload_n (i := 2) dX5_chooses_43 rfl rfl ?_
        refine y_istore_n (i := 2) (ls2 := [_, _, _, _, _, _]) dX5_chooses_44 rfl (by decide) rfl rfl ?_
        refine x_iload_n (i := 3) dX5_chooses_45 rfl rfl ?_
        refine x_iload (i := 5) dX5_chooses_46 rfl ?_
        refine x_s2i dX5_chooses_48 okX5_less ml_X5_71 (Nat.le_of_ble_eq_true rfl) ⟨by decide, by decide⟩ (Nat.le_of_ble_eq_true rfl) (c_X5_less _ _ ?_)
        first | refine x_top (less_le h35) ?_ | refine x_top (less_nle h35) ?_
        refine y_istore_n (i := 3) (ls2 := [_, _, _, _, _, _]) dX5_chooses_51 rfl (by decide) rfl rfl ?_
        refine y_iincN (i := 4) (ls2 := [_, _, _, _, _, _]) dX5_chooses_52 rfl (by decide) rfl rfl ?_
        refine x_goto (tgt := 17) dX5_chooses_55 rfl ?_
        exact x_mask [true, true, true, true, true, false] <| ih (r + 1) _ _ τ (by omega) (by first | exact ((if_pos h35).symm.trans e2.symm) | exact ((if_neg h35).symm.trans e2.symm)) (by omega) (ms_fq hs hf1 (by decide) (by decide)) (fg_tr hf (fq_fg hf1))
      · skip
        refine x_iload (i := 4) dX5_chooses_38 rfl ?_
        refine x_goto (tgt := 44) dX5_chooses_40 rfl ?_
        refine y_istore_n (i := 2) (ls2 := [_, _, _, _, _, _]) dX5_chooses_44 rfl (by decide) rfl rfl ?_
        refine x_iload_n (i := 3) dX5_chooses_45 rfl rfl ?_
        refine x_iload (i := 5) dX5_chooses_46 rfl ?_
        refine x_s2i dX5_chooses_48 okX5_less ml_X5_71 (Nat.le_of_ble_eq_true rfl) ⟨by decide, by decide⟩ (Nat.le_of_ble_eq_true rfl) (c_X5_less _ _ ?_)
        first | refine x_top (less_le h35) ?_ | refine x_top (less_nle h35) ?_
        refine y_istore_n (i := 3) (ls2 := [_, _, _, _, _, _]) dX5_chooses_51 rfl (by decide) rfl rfl ?_
        refine y_iincN (i := 4) (ls2 := [_, _, _, _, _, _]) dX5_chooses_52 rfl (by decide) rfl rfl ?_
        refine x_goto (tgt := 17) dX5_chooses_55 rfl ?_
        exact x_mask [true, true, true, true, true, false] <| ih (r + 1) _ _ τ (by omega) (by first | exact ((if_pos h35).symm.trans e2.symm) | exact ((if_neg h35).symm.trans e2.symm)) (by omega) (ms_fq hs hf1 (by decide) (by decide)) (fg_tr hf (fq_fg hf1))
set_option maxHeartbeats 4000000 in
set_option maxRecDepth 20000 in
theorem c_X5_chooses {σ : xH} {K : xH → Prop} {T : Tw} (hO : tOk T) {i : Nat} (hi : i < tN T) (hs : ms σ 1 (chA T i)) (hk : ∀ τ, ms τ 1 (chA T (i + 1)) → fg σ τ → K τ) : Evv l (oM ad D cy) mX5_chooses [.ref 0, .int (nI i)] σ K := by
  refine x_enter (ls := [some (.ref 0), some (.int (nI i)), none, none, none, none]) rfl ?_
  have h8 : tN T ≤ 8 := hO.1
  have hg := hO.2.2.2.2.2.2.2 i hi
  refine x_aload_n (i := 0) dX5_chooses_0 rfl rfl ?_
  refine x_iload_n (i := 1) dX5_chooses_1 rfl rfl ?_
  refine x_iconstN (n := 2) dX5_chooses_2 ?_
  refine x_v2i dX5_chooses_3 okX5_get ml_X5_92 rfl rfl (Nat.le_of_ble_eq_true rfl) ⟨by decide, by decide⟩ (Nat.le_of_ble_eq_true rfl) (c_get2 hs (d := i) hi ?_)
  refine x_top (congrArg nI (chA_at T i)) ?_
  refine y_istore_n (i := 2) (ls2 := [_, _, _, _, _, _]) dX5_chooses_6 rfl (by decide) rfl rfl ?_
  refine x_aload_n (i := 0) dX5_chooses_7 rfl rfl ?_
  refine x_iload_n (i := 1) dX5_chooses_8 rfl rfl ?_
  refine x_iload_n (i := 2) dX5_chooses_9 rfl rfl ?_
  refine x_v2i dX5_chooses_10 okX5_tookBy ml_X5_102 rfl rfl (Nat.le_of_ble_eq_true rfl) ⟨by decide, by decide⟩ (Nat.le_of_ble_eq_true rfl) (c_X5_tookBy (chA_ok hO i) hs (d := i) hi hg (fun τ hf1 => ?_))
  refine y_istore_n (i := 3) (ls2 := [_, _, _, _, _, _]) dX5_chooses_13 rfl (by decide) rfl rfl ?_
  refine x_iconstN (n := 0) dX5_chooses_14 ?_
  refine y_istore (i := 4) (ls2 := [_, _, _, _, _, _]) dX5_chooses_15 (by decide) rfl rfl ?_
  exact l_X5_chooses hO hi hk 3 0 _ _ τ rfl rfl hg (ms_fq hs hf1 (by decide) (by decide)) (fq_fg hf1)
theorem ms_lay {σ : xH} {c : Nat} {T : Tw} (h : ms σ c T) {p : Nat} (hp : p < 60) (v : Int32) : ms (xpi (xpi σ c (3 + p) v) c (63 + p) (nI 0)) c (layT T p v) := by
  obtain ⟨h1, h2, h3, h4, h5, h6, h7, h8, h9, h10⟩ := h
  have key : ∀ q, q ≠ 3 + p → q ≠ 63 + p → (xpi (xpi σ c (3 + p) v) c (63 + p) (nI 0)).1 c q = σ.1 c q := fun q a b => by simp [xui, upd, a, b]
  refine ⟨?_, ?_, ?_, fun j hj => ?_, fun j hj => ?_, fun d hd => ?_, fun d hd => ?_, fun d hd => ?_, h9, h10⟩
  · rw [key _ (by omega) (by omega)]; exact h1
  · rw [key _ (by omega) (by omega)]; exact h2
  · rw [key _ (by omega) (by omega)]; exact h3
  · show _ = upd (tTh T) p v j
    by_cases e : j = p
    · subst e
      have : ¬ 3 + j = 63 + j := by omega
      simp [xui, upd, this]
    · rw [key _ (by omega) (by omega), h4 j hj]; simp [upd, e]
  · show _ = upd (tAg T) p (nI 0) j
    by_cases e : j = p
    · subst e
      simp [xui, upd]
    · rw [key _ (by omega) (by omega), h5 j hj]; simp [upd, e]
  · have : tN T ≤ 8 := h9
    have hd : d < tN T := hd
    rw [key _ (by omega) (by omega)]; exact h6 d hd
  · have hd : d < tN T := hd
    rw [key _ (by omega) (by omega)]; exact h7 d hd
  · have hd : d < tN T := hd
    rw [key _ (by omega) (by omega)]; exact h8 d hd
set_option maxHeartbeats 4000000 in
set_option maxRecDepth 20000 in
theorem c_X5_lies {σ : xH} {K : xH → Prop} {T : Tw} (hs : ms σ 1 T) {r i : Nat} (hr : r < 3) (hi : i < 20) (v : Int32) (hk : ∀ τ, ms τ 1 (layT T (r * 20 + i) v) → fg σ τ → K τ) : Evv l (oM ad D cy) mX5_lies [.ref 0, .int (nI r), .int (nI i), .int v] σ K := by
  refine x_enter (ls := [some (.ref 0), some (.int (nI r)), some (.int (nI i)), some (.int v)]) rfl ?_
  refine x_aload_n (i := 0) dX5_lies_0 rfl rfl ?_
  refine x_getr (i := 0) dX5_lies_1 rfl rfl rfl (by decide) fl_X5_9 inX5 ?_
  refine x_iconstN (n := 3) dX5_lies_4 ?_
  refine x_bipush (v := nI 20) dX5_lies_5 (by decide) ?_
  refine x_iload_n (i := 1) dX5_lies_7 rfl rfl ?_
  refine x_imulN dX5_lies_8 ?_
  refine x_iaddN dX5_lies_9 ?_
  refine x_iload_n (i := 2) dX5_lies_10 rfl rfl ?_
  refine x_iaddN dX5_lies_11 ?_
  refine x_iload_n (i := 3) dX5_lies_12 rfl rfl ?_
  refine x_iastN dX5_lies_13 rfl (by omega) (by decide) ?_
  refine x_aload_n (i := 0) dX5_lies_14 rfl rfl ?_
  refine x_getr (i := 0) dX5_lies_15 rfl rfl rfl (by decide) fl_X5_9 inX5 ?_
  refine x_bipush (v := nI 63) dX5_lies_18 (by decide) ?_
  refine x_bipush (v := nI 20) dX5_lies_20 (by decide) ?_
  refine x_iload_n (i := 1) dX5_lies_22 rfl rfl ?_
  refine x_imulN dX5_lies_23 ?_
  refine x_iaddN dX5_lies_24 ?_
  refine x_iload_n (i := 2) dX5_lies_25 rfl rfl ?_
  refine x_iaddN dX5_lies_26 ?_
  refine x_iconstN (n := 0) dX5_lies_27 ?_
  refine x_iastN dX5_lies_28 rfl (by omega) (by decide) ?_
  exact x_retv dX5_lies_29 rfl (hk _ (by have h := ms_lay hs (p := r * 20 + i) (by omega) v; rw [show 3 + (r * 20 + i) = 3 + 20 * r + i by omega, show 63 + (r * 20 + i) = 63 + 20 * r + i by omega] at h; exact h) (fg_tr fg_1 fg_1))
/-- the row and the row aside may have changed -/
def fh (σ τ : xH) : Prop := τ.2 = σ.2 ∧ (∀ q, q ≠ 0 → q ≠ 1 → q ≠ 3 → q ≠ 5 → τ.1 q = σ.1 q) ∧ ∀ i, i ≠ 6 → i ≠ 7 → τ.1 0 i = σ.1 0 i
theorem fh_rf (σ : xH) : fh σ σ := ⟨rfl, fun _ _ _ _ _ => rfl, fun _ _ _ => rfl⟩
theorem fh_tr {σ τ υ : xH} (h : fh σ τ) (g : fh τ υ) : fh σ υ := ⟨g.1.trans h.1, fun q a b c d => (g.2.1 q a b c d).trans (h.2.1 q a b c d), fun i a b => (g.2.2 i a b).trans (h.2.2 i a b)⟩
theorem fg_fh {σ τ : xH} (h : fg σ τ) : fh σ τ := ⟨h.1, fun q a b _ d => h.2.1 q a b d, h.2.2⟩
theorem fq_fh {σ τ : xH} (h : fq σ τ) : fh σ τ := fg_fh (fq_fg h)
/-- what a copy of the row leaves: all but the cell b -/
def fc (b : Nat) (σ τ : xH) : Prop := τ.2 = σ.2 ∧ ∀ q, q ≠ b → τ.1 q = σ.1 q
theorem fc_fh {b : Nat} {σ τ : xH} (h : fc b σ τ) (hb : b = 1 ∨ b = 3) : fh σ τ := ⟨h.1, fun q _ h1 h3 _ => h.2 q (by omega), fun i _ _ => by rw [h.2 0 (by omega)]⟩
set_option maxHeartbeats 4000000 in
set_option maxRecDepth 20000 in
theorem l_X5_setsAside {K : xH → Prop} {σ0 : xH} (hk : ∀ τ, (∀ j, j < 147 → τ.1 3 j = σ0.1 1 j) → fc 3 σ0 τ → K τ) : ∀ (n i : Nat) (σ : xH), i + n = 147 → (∀ j, j < i → σ.1 3 j = σ0.1 1 j) → (fc 3 σ0 σ) → Ex l (oM ad D cy) mX5_setsAside 2 [some (.ref 0), some (.int (nI i))] [] σ (xQv K) := by
  intro n
  induction n with
  | zero =>
    intro i σ hi h1 hf
    have hi : i = 147 := by omega
    subst hi
    refine x_iload_n (i := 1) dX5_setsAside_2 rfl rfl ?_
    refine x_sipush (v := nI 147) dX5_setsAside_3 (by decide) ?_
    refine x_icgeN (tgt := 27) (by omega) (by omega) dX5_setsAside_6 rfl (fun h6 => ?_) (fun h6 => ?_)
    · skip
      exact x_retv dX5_setsAside_27 rfl (hk σ h1 hf)
    · exact absurd h6 (by omega)
  | succ n ih =>
    intro i σ hi h1 hf
    refine x_iload_n (i := 1) dX5_setsAside_2 rfl rfl ?_
    refine x_sipush (v := nI 147) dX5_setsAside_3 (by decide) ?_
    refine x_icgeN (tgt := 27) (by omega) (by omega) dX5_setsAside_6 rfl (fun h6 => ?_) (fun h6 => ?_)
    · exact absurd h6 (by omega)
    · skip
      refine x_aload_n (i := 0) dX5_setsAside_9 rfl rfl ?_
      refine x_getr (i := 2) dX5_setsAside_10 rfl rfl rfl (by decide) fl_X5_16 inX5 ?_
      refine x_iload_n (i := 1) dX5_setsAside_13 rfl rfl ?_
      refine x_aload_n (i := 0) dX5_setsAside_14 rfl rfl ?_
      refine x_getr (i := 0) dX5_setsAside_15 rfl rfl rfl (by decide) fl_X5_9 inX5 ?_
      refine x_iload_n (i := 1) dX5_setsAside_18 rfl rfl ?_
      refine x_ialdE dX5_setsAside_19 rfl (by omega) (by decide) (show _ = σ0.1 1 i by rw [hf.2 1 (by decide)]) ?_
      refine x_iastN dX5_setsAside_20 rfl (by omega) (by decide) ?_
      refine y_iincN (i := 1) (ls2 := [_, _]) dX5_setsAside_21 rfl (by decide) rfl rfl ?_
      refine x_goto (tgt := 2) dX5_setsAside_24 rfl ?_
      exact ih (i + 1) _ (by omega) (fun j hj => by rw [xui_s]; unfold upd; exact if e : j = i then (by rw [if_pos e, e]) else (by rw [if_neg e]; exact h1 j (by omega))) ⟨hf.1, fun q hq => (xui_o _ _ hq).trans (hf.2 q hq)⟩
set_option maxHeartbeats 4000000 in
set_option maxRecDepth 20000 in
theorem c_X5_setsAside {σ : xH} {K : xH → Prop}  (hk : ∀ τ, (∀ j, j < 147 → τ.1 3 j = σ.1 1 j) → fc 3 σ τ → K τ) : Evv l (oM ad D cy) mX5_setsAside [.ref 0] σ K := by
  refine x_enter (ls := [some (.ref 0), none]) rfl ?_
  refine x_iconstN (n := 0) dX5_setsAside_0 ?_
  refine y_istore_n (i := 1) (ls2 := [_, _]) dX5_setsAside_1 rfl (by decide) rfl rfl ?_
  exact l_X5_setsAside hk 147 0 σ rfl (fun j hj => absurd hj (Nat.not_lt_zero _)) ⟨rfl, fun _ _ => rfl⟩
set_option maxHeartbeats 4000000 in
set_option maxRecDepth 20000 in
theorem l_X5_laysBack {K : xH → Prop} {σ0 : xH} (hk : ∀ τ, (∀ j, j < 147 → τ.1 1 j = σ0.1 3 j) → fc 1 σ0 τ → K τ) : ∀ (n i : Nat) (σ : xH), i + n = 147 → (∀ j, j < i → σ.1 1 j = σ0.1 3 j) → (fc 1 σ0 σ) → Ex l (oM ad D cy) mX5_laysBack 2 [some (.ref 0), some (.int (nI i))] [] σ (xQv K) := by
  intro n
  induction n with
  | zero =>
    intro i σ hi h1 hf
    have hi : i = 147 := by omega
    subst hi
    refine x_iload_n (i := 1) dX5_laysBack_2 rfl rfl ?_
    refine x_sipush (v := nI 147) dX5_laysBack_3 (by decide) ?_
    refine x_icgeN (tgt := 27) (by omega) (by omega) dX5_laysBack_6 rfl (fun h6 => ?_) (fun h6 => ?_)
    · skip
      exact x_retv dX5_laysBack_27 rfl (hk σ h1 hf)
    · exact absurd h6 (by omega)
  | succ n ih =>
    intro i σ hi h1 hf
    refine x_iload_n (i := 1) dX5_laysBack_2 rfl rfl ?_
    refine x_sipush (v := nI 147) dX5_laysBack_3 (by decide) ?_
    refine x_icgeN (tgt := 27) (by omega) (by omega) dX5_laysBack_6 rfl (fun h6 => ?_) (fun h6 => ?_)
    · exact absurd h6 (by omega)
    · skip
      refine x_aload_n (i := 0) dX5_laysBack_9 rfl rfl ?_
      refine x_getr (i := 0) dX5_laysBack_10 rfl rfl rfl (by decide) fl_X5_9 inX5 ?_
      refine x_iload_n (i := 1) dX5_laysBack_13 rfl rfl ?_
      refine x_aload_n (i := 0) dX5_laysBack_14 rfl rfl ?_
      refine x_getr (i := 2) dX5_laysBack_15 rfl rfl rfl (by decide) fl_X5_16 inX5 ?_
      refine x_iload_n (i := 1) dX5_laysBack_18 rfl rfl ?_
      refine x_ialdE dX5_laysBack_19 rfl (by omega) (by decide) (show _ = σ0.1 3 i by rw [hf.2 3 (by decide)]) ?_
      refine x_iastN dX5_laysBack_20 rfl (by omega) (by decide) ?_
      refine y_iincN (i := 1) (ls2 := [_, _]) dX5_laysBack_21 rfl (by decide) rfl rfl ?_
      refine x_goto (tgt := 2) dX5_laysBack_24 rfl ?_
      exact ih (i + 1) _ (by omega) (fun j hj => by rw [xui_s]; unfold upd; exact if e : j = i then (by rw [if_pos e, e]) else (by rw [if_neg e]; exact h1 j (by omega))) ⟨hf.1, fun q hq => (xui_o _ _ hq).trans (hf.2 q hq)⟩
set_option maxHeartbeats 4000000 in
set_option maxRecDepth 20000 in
theorem c_X5_laysBack {σ : xH} {K : xH → Prop}  (hk : ∀ τ, (∀ j, j < 147 → τ.1 1 j = σ.1 3 j) → fc 1 σ τ → K τ) : Evv l (oM ad D cy) mX5_laysBack [.ref 0] σ K := by
  refine x_enter (ls := [some (.ref 0), none]) rfl ?_
  refine x_iconstN (n := 0) dX5_laysBack_0 ?_
  refine y_istore_n (i := 1) (ls2 := [_, _]) dX5_laysBack_1 rfl (by decide) rfl rfl ?_
  exact l_X5_laysBack hk 147 0 σ rfl (fun j hj => absurd hj (Nat.not_lt_zero _)) ⟨rfl, fun _ _ => rfl⟩
def dayM (T : Tw) : Tw := incD (chA (agS T 60) (tN T))
def daysM (T : Tw) : Nat → Tw
  | 0 => T
  | i + 1 => dayM (daysM T i)
theorem ms_agS0 {σ : xH} {c : Nat} {T : Tw} (h : ms σ c T) : ms σ c (agS T 0) := by
  obtain ⟨h1, h2, h3, h4, h5, h6, h7, h8, h9, h10⟩ := h
  exact ⟨h1, h2, h3, h4, fun i hi => by rw [h5 i hi]; unfold agS agF; simp, h6, h7, h8, h9, h10⟩
theorem ag_step {T : Tw} (hO : tOk T) {i : Nat} (hi : i < 60) : (if tTh T i = nI 4 then (if nI 999 < tAg T i + nI 1 then nI 999 else tAg T i + nI 1) else nI 0) = agF T (i + 1) i := by
  obtain ⟨a, ha, ea, e0⟩ := hO.2.2.2.2.1 i hi
  unfold agF
  by_cases h4 : tTh T i = nI 4
  · rw [if_pos h4, ea, nI_add]
    by_cases h9 : a = 999
    · subst h9
      rw [if_pos (nI_lt (by omega) (by omega)), if_neg (fun z => z.2.2 (nI_le (by omega) (by omega)))]
    · rw [if_neg (fun z => by have := (nI_ltI (by omega) (by omega)).mp z; omega), if_pos ⟨Nat.lt_succ_self _, h4, fun z => by have := (nI_leI (by omega) (by omega)).mp z; omega⟩]
  · rw [if_neg h4, if_neg (fun z => h4 z.2.1), ea, e0 h4]
theorem ms_agS {σ : xH} {c i : Nat} {T : Tw} (hi : i < 60) (h : ms σ c (agS T i)) : ms (xpi σ c (63 + i) (agF T (i + 1) i)) c (agS T (i + 1)) := by
  obtain ⟨h1, h2, h3, h4, h5, h6, h7, h8, h9, h10⟩ := h
  have key : ∀ q, q ≠ 63 + i → (xpi σ c (63 + i) (agF T (i + 1) i)).1 c q = σ.1 c q := fun q a => by simp [xui, upd, a]
  refine ⟨?_, ?_, ?_, fun j hj => ?_, fun j hj => ?_, fun d hd => ?_, fun d hd => ?_, fun d hd => ?_, h9, h10⟩
  · rw [key _ (by omega)]; exact h1
  · rw [key _ (by omega)]; exact h2
  · rw [key _ (by omega)]; exact h3
  · rw [key _ (by omega)]; exact h4 j hj
  · show _ = agF T (i + 1) j
    by_cases e : j = i
    · subst e
      simp [xui, upd]
    · rw [key _ (by omega), h5 j hj]
      show agF T i j = agF T (i + 1) j
      unfold agF
      have : (j < i + 1) ↔ j < i := by omega
      simp only [this]
  · rw [key _ (by omega)]; exact h6 d hd
  · rw [key _ (by omega)]; exact h7 d hd
  · rw [key _ (by omega)]; exact h8 d hd
theorem ms_inc {σ : xH} {c : Nat} {T : Tw} (h : ms σ c T) : ms (xpi σ c 0 (tDay T + nI 1)) c (incD T) := by
  obtain ⟨h1, h2, h3, h4, h5, h6, h7, h8, h9, h10⟩ := h
  have key : ∀ q, q ≠ 0 → (xpi σ c 0 (tDay T + nI 1)).1 c q = σ.1 c q := fun q a => by simp [xui, upd, a]
  exact ⟨by simp [xui, upd, incD], by rw [key _ (by omega)]; exact h2, by rw [key _ (by omega)]; exact h3, fun j hj => by rw [key _ (by omega)]; exact h4 j hj, fun j hj => by rw [key _ (by omega)]; exact h5 j hj, fun d hd => by rw [key _ (by omega)]; exact h6 d hd, fun d hd => by rw [key _ (by omega)]; exact h7 d hd, fun d hd => by rw [key _ (by omega)]; exact h8 d hd, h9, h10⟩
theorem agS_ok {T : Tw} (h : tOk T) : tOk (agS T 60) := by
  obtain ⟨h1, h2, h3, h4, h5, h6, h7, h8⟩ := h
  refine ⟨h1, h2, h3, h4, fun i hi => ?_, h6, trivial, h8⟩
  obtain ⟨a, ha, ea, e0⟩ := h5 i hi
  show ∃ b, b ≤ 999 ∧ agF T 60 i = nI b ∧ (¬ tTh T i = nI 4 → b = 0)
  unfold agF
  by_cases hc : i < 60 ∧ tTh T i = nI 4 ∧ ¬ nI 999 ≤ tAg T i
  · rw [if_pos hc]
    have h9 : a < 999 := Nat.not_le.mp fun z => hc.2.2 (by rw [ea]; exact nI_le z (by omega))
    exact ⟨a + 1, by omega, by rw [ea, nI_add], fun z => absurd hc.2.1 z⟩
  · rw [if_neg hc]
    exact ⟨a, ha, ea, e0⟩
theorem incD_ok {T : Tw} (h : tOk T) : tOk (incD T) := h
theorem dayM_ok {T : Tw} (h : tOk T) : tOk (dayM T) := incD_ok (chA_ok (agS_ok h) _)
theorem daysM_ok {T : Tw} (h : tOk T) : ∀ m, tOk (daysM T m) := by
  intro m
  induction m with
  | zero => exact h
  | succ m ih => exact dayM_ok ih
theorem ms_chA0 {σ : xH} {c : Nat} {T : Tw} (h : ms σ c T) : ms σ c (chA T 0) := by
  obtain ⟨h1, h2, h3, h4, h5, h6, h7, h8, h9, h10⟩ := h
  exact ⟨h1, h2, h3, h4, h5, h6, h7, fun d hd => by simpa [tN, tGo, chA] using h8 d hd, h9, fun d hd => by simpa [tN, tGo, chA] using h10 d hd⟩
set_option maxHeartbeats 4000000 in
set_option maxRecDepth 20000 in
theorem l_X5_ages {K : xH → Prop} {σ0 : xH} {T : Tw} (hO : tOk T) (x y : Int32) (hk : ∀ τ, ms τ 1 (agS T 60) → fg σ0 τ → Ex l (oM ad D cy) mX5_goes 63 [some (.ref 0), some (.int x), some (.int y), none] [] τ (xQv K)) : ∀ (n i : Nat) (σ : xH), i + n = 60 → (ms σ 1 (agS T i)) → (fg σ0 σ) → Ex l (oM ad D cy) mX5_goes 9 [some (.ref 0), some (.int x), some (.int y), some (.int (nI i))] [] σ (xQv K) := by
  intro n
  induction n with
  | zero =>
    intro i σ hi hs hf
    have hi : i = 60 := by omega
    subst hi
    refine x_iload_n (i := 3) dX5_goes_9 rfl rfl ?_
    refine x_bipush (v := nI 60) dX5_goes_10 (by decide) ?_
    refine x_icgeN (tgt := 63) (by omega) (by omega) dX5_goes_12 rfl (fun h12 => ?_) (fun h12 => ?_)
    · skip
      exact x_mask [true, true, true, false] <| hk σ hs hf
    · exact absurd h12 (by omega)
  | succ n ih =>
    intro i σ hi hs hf
    refine x_iload_n (i := 3) dX5_goes_9 rfl rfl ?_
    refine x_bipush (v := nI 60) dX5_goes_10 (by decide) ?_
    refine x_icgeN (tgt := 63) (by omega) (by omega) dX5_goes_12 rfl (fun h12 => ?_) (fun h12 => ?_)
    · exact absurd h12 (by omega)
    · skip
      refine x_aload_n (i := 0) dX5_goes_15 rfl rfl ?_
      refine x_getr (i := 0) dX5_goes_16 rfl rfl rfl (by decide) fl_X5_9 inX5 ?_
      refine x_bipush (v := nI 63) dX5_goes_19 (by decide) ?_
      refine x_iload_n (i := 3) dX5_goes_21 rfl rfl ?_
      refine x_iaddN dX5_goes_22 ?_
      refine x_aload_n (i := 0) dX5_goes_23 rfl rfl ?_
      refine x_getr (i := 0) dX5_goes_24 rfl rfl rfl (by decide) fl_X5_9 inX5 ?_
      refine x_iconstN (n := 3) dX5_goes_27 ?_
      refine x_iload_n (i := 3) dX5_goes_28 rfl rfl ?_
      refine x_iaddN dX5_goes_29 ?_
      refine x_ialdE dX5_goes_30 rfl (by omega) (by decide) (ms_th hs (i := i) (by omega)) ?_
      refine x_iconstN (n := 4) dX5_goes_31 ?_
      refine x_icne (tgt := 55) dX5_goes_32 rfl (fun h32 => ?_) (fun h32 => ?_)
      · skip
        refine x_iconstN (n := 0) dX5_goes_55 ?_
        refine x_top (y := agF T (i + 1) i) ((if_neg h32).symm.trans (ag_step hO (by omega))) ?_
        refine x_iastN dX5_goes_56 rfl (by omega) (by decide) ?_
        refine y_iincN (i := 3) (ls2 := [_, _, _, _]) dX5_goes_57 rfl (by decide) rfl rfl ?_
        refine x_goto (tgt := 9) dX5_goes_60 rfl ?_
        exact ih (i + 1) _ (by omega) (ms_agS (by omega) hs) (fg_tr hf fg_1)
      · skip
        refine x_sipush (v := nI 999) dX5_goes_35 (by decide) ?_
        refine x_aload_n (i := 0) dX5_goes_38 rfl rfl ?_
        refine x_getr (i := 0) dX5_goes_39 rfl rfl rfl (by decide) fl_X5_9 inX5 ?_
        refine x_bipush (v := nI 63) dX5_goes_42 (by decide) ?_
        refine x_iload_n (i := 3) dX5_goes_44 rfl rfl ?_
        refine x_iaddN dX5_goes_45 ?_
        refine x_ialdE dX5_goes_46 rfl (by omega) (by decide) ((ms_ag hs (i := i) (by omega)).trans (agF_at T i)) ?_
        refine x_iconstN (n := 1) dX5_goes_47 ?_
        refine x_iadd dX5_goes_48 ?_
        refine x_s2i dX5_goes_49 okX5_less ml_X5_71 (Nat.le_of_ble_eq_true rfl) ⟨by decide, by decide⟩ (Nat.le_of_ble_eq_true rfl) (c_X5_less _ _ ?_)
        refine x_goto (tgt := 56) dX5_goes_52 rfl ?_
        refine x_top (y := agF T (i + 1) i) ((if_pos h32).symm.trans (ag_step hO (by omega))) ?_
        refine x_iastN dX5_goes_56 rfl (by omega) (by decide) ?_
        refine y_iincN (i := 3) (ls2 := [_, _, _, _]) dX5_goes_57 rfl (by decide) rfl rfl ?_
        refine x_goto (tgt := 9) dX5_goes_60 rfl ?_
        exact ih (i + 1) _ (by omega) (ms_agS (by omega) hs) (fg_tr hf fg_1)
set_option maxHeartbeats 4000000 in
set_option maxRecDepth 20000 in
theorem l_X5_chosen {K : xH → Prop} {σ0 : xH} {T : Tw} (hO : tOk T) (x y : Int32) (hk : ∀ τ, ms τ 1 (chA T (tN T)) → fg σ0 τ → Ex l (oM ad D cy) mX5_goes 86 [some (.ref 0), some (.int x), some (.int y), none] [] τ (xQv K)) : ∀ (n i : Nat) (σ : xH), i + n = tN T → (ms σ 1 (chA T i)) → (fg σ0 σ) → Ex l (oM ad D cy) mX5_goes 65 [some (.ref 0), some (.int x), some (.int y), some (.int (nI i))] [] σ (xQv K) := by
  intro n
  induction n with
  | zero =>
    intro i σ hi hs hf
    have hi : i = tN T := by omega
    subst hi
    have h8 := hO.1
    refine x_iload_n (i := 3) dX5_goes_65 rfl rfl ?_
    refine x_aload_n (i := 0) dX5_goes_66 rfl rfl ?_
    refine x_getr (i := 0) dX5_goes_67 rfl rfl rfl (by decide) fl_X5_9 inX5 ?_
    refine x_iconstN (n := 2) dX5_goes_70 ?_
    refine x_ialdE dX5_goes_71 rfl (by omega) (by decide) ((ms_n hs).trans rfl : _ = nI (tN T)) ?_
    refine x_icgeN (tgt := 86) (by omega) (by omega) dX5_goes_72 rfl (fun h72 => ?_) (fun h72 => ?_)
    · skip
      exact x_mask [true, true, true, false] <| hk σ hs hf
    · exact absurd h72 (by omega)
  | succ n ih =>
    intro i σ hi hs hf
    have h8 := hO.1
    refine x_iload_n (i := 3) dX5_goes_65 rfl rfl ?_
    refine x_aload_n (i := 0) dX5_goes_66 rfl rfl ?_
    refine x_getr (i := 0) dX5_goes_67 rfl rfl rfl (by decide) fl_X5_9 inX5 ?_
    refine x_iconstN (n := 2) dX5_goes_70 ?_
    refine x_ialdE dX5_goes_71 rfl (by omega) (by decide) ((ms_n hs).trans rfl : _ = nI (tN T)) ?_
    refine x_icgeN (tgt := 86) (by omega) (by omega) dX5_goes_72 rfl (fun h72 => ?_) (fun h72 => ?_)
    · exact absurd h72 (by omega)
    · skip
      refine x_aload_n (i := 0) dX5_goes_75 rfl rfl ?_
      refine x_iload_n (i := 3) dX5_goes_76 rfl rfl ?_
      refine x_v1v dX5_goes_77 okX5_chooses ml_X5_108 rfl rfl (Nat.le_of_ble_eq_true rfl) ⟨by decide, by decide⟩ (Nat.le_of_ble_eq_true rfl) (c_X5_chooses hO (by omega) hs (fun τ hs1 hf1 => ?_))
      refine y_iincN (i := 3) (ls2 := [_, _, _, _]) dX5_goes_80 rfl (by decide) rfl rfl ?_
      refine x_goto (tgt := 65) dX5_goes_83 rfl ?_
      exact ih (i + 1) τ (by omega) hs1 (fg_tr hf hf1)
set_option maxHeartbeats 4000000 in
set_option maxRecDepth 20000 in
theorem l_X5_goes {K : xH → Prop} {σ0 : xH} {T : Tw} (hO : tOk T) {m : Nat} (hm : m ≤ 200) (hk : ∀ τ, ms τ 1 (daysM T m) → fg σ0 τ → K τ) : ∀ (n i : Nat) (σ : xH), i + n = m → (ms σ 1 (daysM T i)) → (fg σ0 σ) → Ex l (oM ad D cy) mX5_goes 2 [some (.ref 0), some (.int (nI m)), some (.int (nI i)), none] [] σ (xQv K) := by
  intro n
  induction n with
  | zero =>
    intro i σ hi hs hf
    have hi : i = m := by omega
    subst hi
    refine x_iload_n (i := 2) dX5_goes_2 rfl rfl ?_
    refine x_iload_n (i := 1) dX5_goes_3 rfl rfl ?_
    refine x_icgeN (tgt := 102) (by omega) (by omega) dX5_goes_4 rfl (fun h4 => ?_) (fun h4 => ?_)
    · skip
      exact x_retv dX5_goes_102 rfl (hk σ hs hf)
    · exact absurd h4 (by omega)
  | succ n ih =>
    intro i σ hi hs hf
    refine x_iload_n (i := 2) dX5_goes_2 rfl rfl ?_
    refine x_iload_n (i := 1) dX5_goes_3 rfl rfl ?_
    refine x_icgeN (tgt := 102) (by omega) (by omega) dX5_goes_4 rfl (fun h4 => ?_) (fun h4 => ?_)
    · exact absurd h4 (by omega)
    · skip
      refine x_iconstN (n := 0) dX5_goes_7 ?_
      refine y_istore_n (i := 3) (ls2 := [_, _, _, _]) dX5_goes_8 rfl (by decide) rfl rfl ?_
      refine l_X5_ages (daysM_ok hO i) _ _ (fun τ hs1 hf1 => ?_) 60 0 σ rfl (ms_agS0 hs) (fg_rf σ)
      refine x_iconstN (n := 0) dX5_goes_63 ?_
      refine y_istore_n (i := 3) (ls2 := [_, _, _, _]) dX5_goes_64 rfl (by decide) rfl rfl ?_
      refine l_X5_chosen (agS_ok (daysM_ok hO i)) _ _ (fun υ hs2 hf2 => ?_) (tN (daysM T i)) 0 τ (by show 0 + tN (daysM T i) = tN (daysM T i); omega) (ms_chA0 hs1) (fg_rf τ)
      refine x_aload_n (i := 0) dX5_goes_86 rfl rfl ?_
      refine x_getr (i := 0) dX5_goes_87 rfl rfl rfl (by decide) fl_X5_9 inX5 ?_
      refine x_iconstN (n := 0) dX5_goes_90 ?_
      refine x_dup2 dX5_goes_91 rfl rfl ?_
      refine x_ialdE dX5_goes_92 rfl (by omega) (by decide) (ms_day hs2) ?_
      refine x_iconstN (n := 1) dX5_goes_93 ?_
      refine x_iadd dX5_goes_94 ?_
      refine x_iastN dX5_goes_95 rfl (by omega) (by decide) ?_
      refine y_iincN (i := 2) (ls2 := [_, _, _, _]) dX5_goes_96 rfl (by decide) rfl rfl ?_
      refine x_goto (tgt := 2) dX5_goes_99 rfl ?_
      exact x_mask [true, true, true, false] <| ih (i + 1) _ (by omega) (ms_inc hs2) (fg_tr hf (fg_tr hf1 (fg_tr hf2 fg_1)))
set_option maxHeartbeats 4000000 in
set_option maxRecDepth 20000 in
theorem c_X5_goes {σ : xH} {K : xH → Prop} {T : Tw} (hO : tOk T) (hs : ms σ 1 T) {m : Nat} (hm : m ≤ 200) (hk : ∀ τ, ms τ 1 (daysM T m) → fg σ τ → K τ) : Evv l (oM ad D cy) mX5_goes [.ref 0, .int (nI m)] σ K := by
  refine x_enter (ls := [some (.ref 0), some (.int (nI m)), none, none]) rfl ?_
  refine x_iconstN (n := 0) dX5_goes_0 ?_
  refine y_istore_n (i := 2) (ls2 := [_, _, _, _]) dX5_goes_1 rfl (by decide) rfl rfl ?_
  exact l_X5_goes hO hm hk m 0 σ (by omega) hs (fg_rf σ)
end
