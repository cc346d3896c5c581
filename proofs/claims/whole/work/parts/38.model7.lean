section
variable {l : Launch} {ad : Nat → Nat} {D : va_G} {cy : Nat → ClassId}
def bL (c : Int32) (o : Bs) : Int32 := match o with
  | none => c
  | some (_, v) => v
theorem stMin_n {o : Bs} {i : Nat} {v c : Int32} (h : ¬ bL c o ≤ v) : stMin o i v = some (i, v) := by
  match o, h with
  | none, _ => rfl
  | some (b, w), h => exact if_neg h
theorem stMin_k {o : Bs} {i : Nat} {v c : Int32} (hv : ¬ c ≤ v) (h : bL c o ≤ v) : stMin o i v = o := by
  match o, h with
  | none, h => exact absurd h hv
  | some (b, w), h => exact if_pos h
theorem stMax_n {o : Bs} {i : Nat} {v c : Int32} (h : ¬ v ≤ bL c o) : stMax o i v = some (i, v) := by
  match o, h with
  | none, _ => rfl
  | some (b, w), h => exact if_neg h
theorem stMax_k {o : Bs} {i : Nat} {v c : Int32} (hv : ¬ v ≤ c) (h : v ≤ bL c o) : stMax o i v = o := by
  match o, h with
  | none, h => exact absurd h hv
  | some (b, w), h => exact if_pos h
theorem lt_nI {x : Int32} {n c : Nat} (h : ∃ t, t ≤ n ∧ x = nI t) (hc : n < c) (hb : c < 2 ^ 31) : ¬ nI c ≤ x := by
  obtain ⟨t, ht, rfl⟩ := h
  exact nI_ge (by omega) hb
theorem lay_back {T : Tw} (hO : tOk T) {p : Nat} (hp : p < 60) (h : tTh T p = nI 0) (v : Int32) : layT (layT T p v) p (nI 0) = T := by
  obtain ⟨a, _, ea, e0⟩ := hO.2.2.2.2.1 p hp
  have h0 : a = 0 := e0 (by rw [h]; decide)
  subst h0
  have e1 : upd (upd (tTh T) p v) p (nI 0) = tTh T := by
    funext j
    unfold upd
    by_cases e : j = p
    · rw [if_pos e, e, h]
    · rw [if_neg e, if_neg e]
  have e2 : upd (upd (tAg T) p (nI 0)) p (nI 0) = tAg T := by
    funext j
    unfold upd
    by_cases e : j = p
    · rw [if_pos e, e, ea]
    · rw [if_neg e, if_neg e]
  show (tDay T, tIn T, tN T, upd (upd (tTh T) p v) p (nI 0), upd (upd (tAg T) p (nI 0)) p (nI 0), tKd T, tWs T, tGo T) = T
  rw [e1, e2]
theorem th_le0 {T : Tw} (hO : tOk T) {p : Nat} (hp : p < 60) (h : tTh T p ≤ 0) : tTh T p = 0 := by
  obtain ⟨x, hx, ex⟩ := hO.2.2.2.1 p hp
  rw [ex] at h ⊢
  by_cases e : x = 0
  · rw [e]; rfl
  · exact absurd h (nI_nle (by omega) (by omega))
theorem th_nle0 {T : Tw} {p : Nat} (h : ¬ tTh T p ≤ 0) : ¬ tTh T p = 0 := fun z => h (by rw [z]; decide)
set_option maxHeartbeats 4000000 in
set_option maxRecDepth 20000 in
theorem c_lies5 {σ : xH} {K : xH → Prop} {T : Tw} (hs : ms σ 1 T) {r i : Nat} (hr : r < 3) (hi : i < 20) (v : Int32) (hk : ∀ τ, ms τ 1 (layT T (r * 20 + i) v) → fg σ τ → τ.1 5 = σ.1 5 → K τ) : Evv l (oM ad D cy) mX5_lies [.ref 0, .int (nI r), .int (nI i), .int v] σ K := by
  refine x_enter (ls := [some (.ref 0), some (.int (nI r)), some (.int (nI i)), some (.int v)]) rfl ?_
  refine x_aload_n (i := 0) dX5_lies_0 rfl rfl ?_
  refine x_getr (i := 0) dX5_lies_1 rfl rfl rfl (by decide) fl_X5_9 inX5 ?_
  refine x_iconstN (n := 3) dX5_lies_4 ?_
  refine x_bipush (v := nI 20) dX5_lies_5 (by decide) ?_
  refine x_iload_n (i := 1) dX5_lies_7 rfl rfl ?_
  refine x_imulN dX5_lies_8 ?_
  refine x_iaddN dX5_lies_9 ?_
  refine x_iload_n (i := 2) dX5_lies_10 rfl rfl ?_
  refine x_iaddN dX5_lies_11 ?_
  refine x_iload_n (i := 3) dX5_lies_12 rfl rfl ?_
  refine x_iastN dX5_lies_13 rfl (by omega) (by decide) ?_
  refine x_aload_n (i := 0) dX5_lies_14 rfl rfl ?_
  refine x_getr (i := 0) dX5_lies_15 rfl rfl rfl (by decide) fl_X5_9 inX5 ?_
  refine x_bipush (v := nI 63) dX5_lies_18 (by decide) ?_
  refine x_bipush (v := nI 20) dX5_lies_20 (by decide) ?_
  refine x_iload_n (i := 1) dX5_lies_22 rfl rfl ?_
  refine x_imulN dX5_lies_23 ?_
  refine x_iaddN dX5_lies_24 ?_
  refine x_iload_n (i := 2) dX5_lies_25 rfl rfl ?_
  refine x_iaddN dX5_lies_26 ?_
  refine x_iconstN (n := 0) dX5_lies_27 ?_
  refine x_iastN dX5_lies_28 rfl (by omega) (by decide) ?_
  exact x_retv dX5_lies_29 rfl (hk _ (by have h := ms_lay hs (p := r * 20 + i) (by omega) v; rw [show 3 + (r * 20 + i) = 3 + 20 * r + i by omega, show 63 + (r * 20 + i) = 63 + 20 * r + i by omega] at h; exact h) (fg_tr fg_1 fg_1) (by rw [xui_o _ _ (by omega), xui_o _ _ (by omega)]))
set_option maxHeartbeats 4000000 in
set_option maxRecDepth 20000 in
theorem l_X5_quickest {K : Int32 → xH → Prop} {σ : xH} {T : Tw} {k w : Int32} {r : Nat} (hq : ∀ j, j < 20 → σ.1 5 j = pP T k w r (j + 1)) (hk : K (pTop T k w r) σ) : ∀ (n i : Nat) (s : Int32), i + n = 20 → (s = fM k w (tIn T) (fun i => tTh T (r * 20 + i)) (fun i => tAg T (r * 20 + i)) i) → Ex l (oM ad D cy) mX5_quickest 4 [some (.ref 0), some (.int s), some (.int (nI i))] [] σ (xQi K) := by
  intro n
  induction n with
  | zero =>
    intro i s hi es
    have hi : i = 20 := by omega
    subst hi
    refine x_iload_n (i := 2) dX5_quickest_4 rfl rfl ?_
    refine x_bipush (v := nI 20) dX5_quickest_5 (by decide) ?_
    refine x_icgeN (tgt := 37) (by omega) (by omega) dX5_quickest_7 rfl (fun h7 => ?_) (fun h7 => ?_)
    · skip
      refine x_iload_n (i := 1) dX5_quickest_37 rfl rfl ?_
      exact x_ireti dX5_quickest_38 rfl (es ▸ hk)
    · exact absurd h7 (by omega)
  | succ n ih =>
    intro i s hi es
    refine x_iload_n (i := 2) dX5_quickest_4 rfl rfl ?_
    refine x_bipush (v := nI 20) dX5_quickest_5 (by decide) ?_
    refine x_icgeN (tgt := 37) (by omega) (by omega) dX5_quickest_7 rfl (fun h7 => ?_) (fun h7 => ?_)
    · exact absurd h7 (by omega)
    · skip
      refine x_aload_n (i := 0) dX5_quickest_10 rfl rfl ?_
      refine x_getr (i := 5) dX5_quickest_11 rfl rfl rfl (by decide) fl_X5_22 inX5 ?_
      refine x_iload_n (i := 2) dX5_quickest_14 rfl rfl ?_
      refine x_ialdE dX5_quickest_15 rfl (by omega) (by decide) (hq i (by omega)) ?_
      refine x_iload_n (i := 1) dX5_quickest_16 rfl rfl ?_
      refine x_icle (tgt := 29) dX5_quickest_17 rfl (fun h17 => ?_) (fun h17 => ?_)
      · skip
        refine x_iload_n (i := 1) dX5_quickest_29 rfl rfl ?_
        refine y_istore_n (i := 1) (ls2 := [_, _, _]) dX5_quickest_30 rfl (by decide) rfl rfl ?_
        refine y_iincN (i := 2) (ls2 := [_, _, _]) dX5_quickest_31 rfl (by decide) rfl rfl ?_
        refine x_goto (tgt := 4) dX5_quickest_34 rfl ?_
        exact ih (i + 1) _ (by omega) (by subst es; first | exact (if_neg (Int32.not_lt.mpr h17)).symm | exact (if_pos (Int32.not_le.mp h17)).symm)
      · skip
        refine x_aload_n (i := 0) dX5_quickest_20 rfl rfl ?_
        refine x_getr (i := 5) dX5_quickest_21 rfl rfl rfl (by decide) fl_X5_22 inX5 ?_
        refine x_iload_n (i := 2) dX5_quickest_24 rfl rfl ?_
        refine x_ialdE dX5_quickest_25 rfl (by omega) (by decide) (hq i (by omega)) ?_
        refine x_goto (tgt := 30) dX5_quickest_26 rfl ?_
        refine y_istore_n (i := 1) (ls2 := [_, _, _]) dX5_quickest_30 rfl (by decide) rfl rfl ?_
        refine y_iincN (i := 2) (ls2 := [_, _, _]) dX5_quickest_31 rfl (by decide) rfl rfl ?_
        refine x_goto (tgt := 4) dX5_quickest_34 rfl ?_
        exact ih (i + 1) _ (by omega) (by subst es; first | exact (if_neg (Int32.not_lt.mpr h17)).symm | exact (if_pos (Int32.not_le.mp h17)).symm)
set_option maxHeartbeats 4000000 in
set_option maxRecDepth 20000 in
theorem c_X5_quickest {σ : xH} {K : Int32 → xH → Prop} {T : Tw} {k w : Int32} {r : Nat} (hq : ∀ j, j < 20 → σ.1 5 j = pP T k w r (j + 1)) (hk : K (pTop T k w r) σ) : Evi l (oM ad D cy) mX5_quickest [.ref 0] σ K := by
  refine x_enter (ls := [some (.ref 0), none, none]) rfl ?_
  refine x_iconstN (n := 0) dX5_quickest_0 ?_
  refine y_istore_n (i := 1) (ls2 := [_, _, _]) dX5_quickest_1 rfl (by decide) rfl rfl ?_
  refine x_iconstN (n := 0) dX5_quickest_2 ?_
  refine y_istore_n (i := 2) (ls2 := [_, _, _]) dX5_quickest_3 rfl (by decide) rfl rfl ?_
  exact l_X5_quickest hq hk 20 0 _ rfl rfl
set_option maxHeartbeats 4000000 in
set_option maxRecDepth 20000 in
theorem l_X5_tame {K : Int32 → xH → Prop} {σ0 : xH} {S : St} (hS : mS σ0 S) (hO : tOk (gT S)) {d r k w : Nat} (hd : d < tN (gT S)) (hr : r < 3) (hk6 : k < 6) (h10 : 10 ≤ w) (h80 : w ≤ 80) (ek : tKd (gT S) d = nI k) (ew : tWs (gT S) d = nI w) (hk : ∀ τ, mS τ (bR S (bMin (fun i => decide (tTh (gT S) (r * 20 + i) = 0)) (fun i => pTop (layT (gT S) (r * 20 + i) (nI 1)) (nI k) (nI w) r) 20)).2 → K (bR S (bMin (fun i => decide (tTh (gT S) (r * 20 + i) = 0)) (fun i => pTop (layT (gT S) (r * 20 + i) (nI 1)) (nI k) (nI w) r) 20)).1 τ) : ∀ (n i : Nat) (σ : xH) (b : Int32) (y : Int32), i + n = 20 → (b = bI (bMin (fun i => decide (tTh (gT S) (r * 20 + i) = 0)) (fun i => pTop (layT (gT S) (r * 20 + i) (nI 1)) (nI k) (nI w) r) i)) → (y = bL (nI 999) (bMin (fun i => decide (tTh (gT S) (r * 20 + i) = 0)) (fun i => pTop (layT (gT S) (r * 20 + i) (nI 1)) (nI k) (nI w) r) i)) → (ms σ 1 (gT S)) → (fg σ0 σ) → Ex l (oM ad D cy) mX5_tame 25 [some (.ref 0), some (.int (nI d)), some (.int (nI r)), some (.int b), some (.int y), some (.int (nI i))] [] σ (xQi K) := by
  intro n
  induction n with
  | zero =>
    intro i σ b y hi eb ey hs hf
    have hi : i = 20 := by omega
    subst hi
    refine x_iload (i := 5) dX5_tame_25 rfl ?_
    refine x_bipush (v := nI 20) dX5_tame_27 (by decide) ?_
    refine x_icgeN (tgt := 115) (by omega) (by omega) dX5_tame_29 rfl (fun h29 => ?_) (fun h29 => ?_)
    · skip
      refine x_iload_n (i := 3) dX5_tame_115 rfl rfl ?_
      refine x_ifge (tgt := 127) dX5_tame_116 rfl (fun h116 => ?_) (fun h116 => ?_)
      · skip
        refine x_iload_n (i := 3) dX5_tame_127 rfl rfl ?_
        exact x_ireti dX5_tame_128 rfl (by subst eb; first | (rw [bR_some h116] at hk; exact hk σ (mS_h0 hS (fg_fh hf) hs)) | (rw [bR_none h116 (fun b w h => by have := bMin_b _ _ _ b w h; omega)] at hk; exact hk τ hτ))
      · skip
        refine x_aload_n (i := 0) dX5_tame_119 rfl rfl ?_
        refine x_iconstN (n := 3) dX5_tame_120 ?_
        refine x_v1i dX5_tame_121 okX5_no ml_X5_118 rfl rfl (Nat.le_of_ble_eq_true rfl) ⟨by decide, by decide⟩ (Nat.le_of_ble_eq_true rfl) (c_X5_no (mS_h0 hS (fg_fh hf) hs) 3 (by decide) (fun τ hτ => ?_))
        refine x_goto (tgt := 128) dX5_tame_124 rfl ?_
        exact x_ireti dX5_tame_128 rfl (by subst eb; first | (rw [bR_some h116] at hk; exact hk σ (mS_h0 hS (fg_fh hf) hs)) | (rw [bR_none h116 (fun b w h => by have := bMin_b _ _ _ b w h; omega)] at hk; exact hk τ hτ))
    · exact absurd h29 (by omega)
  | succ n ih =>
    intro i σ b y hi eb ey hs hf
    subst eb
    subst ey
    have h8 := hO.1
    have hv := lt_nI (c := 999) (pTop_rng (lay_ok hO (r * 20 + i) (v := 1) (by omega)) hk6 h10 h80 hr) (by omega) (by omega)
    refine x_iload (i := 5) dX5_tame_25 rfl ?_
    refine x_bipush (v := nI 20) dX5_tame_27 (by decide) ?_
    refine x_icgeN (tgt := 115) (by omega) (by omega) dX5_tame_29 rfl (fun h29 => ?_) (fun h29 => ?_)
    · exact absurd h29 (by omega)
    · skip
      refine x_aload_n (i := 0) dX5_tame_32 rfl rfl ?_
      refine x_getr (i := 0) dX5_tame_33 rfl rfl rfl (by decide) fl_X5_9 inX5 ?_
      refine x_iconstN (n := 3) dX5_tame_36 ?_
      refine x_bipush (v := nI 20) dX5_tame_37 (by decide) ?_
      refine x_iload_n (i := 2) dX5_tame_39 rfl rfl ?_
      refine x_imulN dX5_tame_40 ?_
      refine x_iaddN dX5_tame_41 ?_
      refine x_iload (i := 5) dX5_tame_42 rfl ?_
      refine x_iaddN dX5_tame_44 ?_
      refine x_ialdE dX5_tame_45 rfl (by omega) (by decide) (ms_th2 hs (by omega)) ?_
      refine x_ifne (tgt := 109) dX5_tame_46 rfl (fun h46 => ?_) (fun h46 => ?_)
      · skip
        refine y_iincN (i := 5) (ls2 := [_, _, _, _, _, _]) dX5_tame_109 rfl (by decide) rfl rfl ?_
        refine x_goto (tgt := 25) dX5_tame_112 rfl ?_
        have e1 : bMin (fun i => decide (tTh (gT S) (r * 20 + i) = 0)) (fun i => pTop (layT (gT S) (r * 20 + i) (nI 1)) (nI k) (nI w) r) (i + 1) = bMin (fun i => decide (tTh (gT S) (r * 20 + i) = 0)) (fun i => pTop (layT (gT S) (r * 20 + i) (nI 1)) (nI k) (nI w) r) i := bMin_f (by simpa using h46)
        exact ih (i + 1) σ _ _ (by omega) (by rw [e1]) (by rw [e1]) hs hf
      · skip
        refine x_aload_n (i := 0) dX5_tame_49 rfl rfl ?_
        refine x_iload_n (i := 2) dX5_tame_50 rfl rfl ?_
        refine x_iload (i := 5) dX5_tame_51 rfl ?_
        refine x_iconstN (n := 1) dX5_tame_53 ?_
        refine x_v3v dX5_tame_54 okX5_lies ml_X5_121 rfl rfl (Nat.le_of_ble_eq_true rfl) ⟨by decide, by decide⟩ (Nat.le_of_ble_eq_true rfl) (c_lies5 hs hr (by omega) _ (fun τ1 hs1 hf1 hz1 => ?_))
        refine x_aload_n (i := 0) dX5_tame_57 rfl rfl ?_
        refine x_aload_n (i := 0) dX5_tame_58 rfl rfl ?_
        refine x_iload_n (i := 1) dX5_tame_59 rfl rfl ?_
        refine x_iconstN (n := 0) dX5_tame_60 ?_
        refine x_v2i dX5_tame_61 okX5_get ml_X5_92 rfl rfl (Nat.le_of_ble_eq_true rfl) ⟨by decide, by decide⟩ (Nat.le_of_ble_eq_true rfl) (c_get0 hs1 hd ?_)
        refine x_top ek ?_
        refine x_aload_n (i := 0) dX5_tame_64 rfl rfl ?_
        refine x_iload_n (i := 1) dX5_tame_65 rfl rfl ?_
        refine x_iconstN (n := 1) dX5_tame_66 ?_
        refine x_v2i dX5_tame_67 okX5_get ml_X5_92 rfl rfl (Nat.le_of_ble_eq_true rfl) ⟨by decide, by decide⟩ (Nat.le_of_ble_eq_true rfl) (c_get1 hs1 hd ?_)
        refine x_top ew ?_
        refine x_iload_n (i := 2) dX5_tame_70 rfl rfl ?_
        refine x_v3v dX5_tame_71 okX5_goesThrough ml_X5_95 rfl rfl (Nat.le_of_ble_eq_true rfl) ⟨by decide, by decide⟩ (Nat.le_of_ble_eq_true rfl) (c_X5_goesThrough (lay_ok hO (r * 20 + i) (v := 1) (by omega)) hk6 h10 h80 hr hs1 (fun τ2 hq hf2 => ?_))
        refine x_aload_n (i := 0) dX5_tame_74 rfl rfl ?_
        refine x_iload_n (i := 2) dX5_tame_75 rfl rfl ?_
        refine x_iload (i := 5) dX5_tame_76 rfl ?_
        refine x_iconstN (n := 0) dX5_tame_78 ?_
        refine x_v3v dX5_tame_79 okX5_lies ml_X5_121 rfl rfl (Nat.le_of_ble_eq_true rfl) ⟨by decide, by decide⟩ (Nat.le_of_ble_eq_true rfl) (c_lies5 (ms_fq hs1 hf2 (by decide) (by decide)) hr (by omega) _ (fun τ3 hs3 hf3 hz3 => ?_))
        have h46z : tTh (gT S) (r * 20 + i) = nI 0 := h46
        rw [lay_back hO (by omega) h46z] at hs3
        have hq3 : ∀ j, j < 20 → τ3.1 5 j = pP (layT (gT S) (r * 20 + i) (nI 1)) (nI k) (nI w) r (j + 1) := fun j hj => by rw [hz3]; exact hq.1 j hj
        refine x_aload_n (i := 0) dX5_tame_82 rfl rfl ?_
        refine x_v0i dX5_tame_83 okX5_quickest ml_X5_162 rfl rfl (Nat.le_of_ble_eq_true rfl) ⟨by decide, by decide⟩ (Nat.le_of_ble_eq_true rfl) (c_X5_quickest hq3 ?_)
        refine x_iload (i := 4) dX5_tame_86 rfl ?_
        refine x_icge (tgt := 96) dX5_tame_88 rfl (fun h88 => ?_) (fun h88 => ?_)
        · skip
          refine x_iload_n (i := 3) dX5_tame_96 rfl rfl ?_
          refine y_istore_n (i := 3) (ls2 := [_, _, _, _, _, _]) dX5_tame_97 rfl (by decide) rfl rfl ?_
          refine x_iload (i := 4) dX5_tame_98 rfl ?_
          refine x_aload_n (i := 0) dX5_tame_100 rfl rfl ?_
          refine x_v0i dX5_tame_101 okX5_quickest ml_X5_162 rfl rfl (Nat.le_of_ble_eq_true rfl) ⟨by decide, by decide⟩ (Nat.le_of_ble_eq_true rfl) (c_X5_quickest hq3 ?_)
          refine x_s2i dX5_tame_104 okX5_less ml_X5_71 (Nat.le_of_ble_eq_true rfl) ⟨by decide, by decide⟩ (Nat.le_of_ble_eq_true rfl) (c_X5_less _ _ ?_)
          refine y_istore (i := 4) (ls2 := [_, _, _, _, _, _]) dX5_tame_107 (by decide) rfl rfl ?_
          refine y_iincN (i := 5) (ls2 := [_, _, _, _, _, _]) dX5_tame_109 rfl (by decide) rfl rfl ?_
          refine x_goto (tgt := 25) dX5_tame_112 rfl ?_
          have e0 : bMin (fun i => decide (tTh (gT S) (r * 20 + i) = 0)) (fun i => pTop (layT (gT S) (r * 20 + i) (nI 1)) (nI k) (nI w) r) (i + 1) = stMin (bMin (fun i => decide (tTh (gT S) (r * 20 + i) = 0)) (fun i => pTop (layT (gT S) (r * 20 + i) (nI 1)) (nI k) (nI w) r) i) i (pTop (layT (gT S) (r * 20 + i) (nI 1)) (nI k) (nI w) r) := bMin_t (by simpa using h46)
          have e1 := e0.trans (stMin_k hv h88)
          exact ih (i + 1) τ3 _ _ (by omega) (by rw [e1]) (by rw [e1]; exact less_le h88) hs3 (fg_tr hf (fg_tr hf1 (fg_tr (fq_fg hf2) hf3)))
        · skip
          refine x_iload (i := 5) dX5_tame_91 rfl ?_
          refine x_goto (tgt := 97) dX5_tame_93 rfl ?_
          refine y_istore_n (i := 3) (ls2 := [_, _, _, _, _, _]) dX5_tame_97 rfl (by decide) rfl rfl ?_
          refine x_iload (i := 4) dX5_tame_98 rfl ?_
          refine x_aload_n (i := 0) dX5_tame_100 rfl rfl ?_
          refine x_v0i dX5_tame_101 okX5_quickest ml_X5_162 rfl rfl (Nat.le_of_ble_eq_true rfl) ⟨by decide, by decide⟩ (Nat.le_of_ble_eq_true rfl) (c_X5_quickest hq3 ?_)
          refine x_s2i dX5_tame_104 okX5_less ml_X5_71 (Nat.le_of_ble_eq_true rfl) ⟨by decide, by decide⟩ (Nat.le_of_ble_eq_true rfl) (c_X5_less _ _ ?_)
          refine y_istore (i := 4) (ls2 := [_, _, _, _, _, _]) dX5_tame_107 (by decide) rfl rfl ?_
          refine y_iincN (i := 5) (ls2 := [_, _, _, _, _, _]) dX5_tame_109 rfl (by decide) rfl rfl ?_
          refine x_goto (tgt := 25) dX5_tame_112 rfl ?_
          have e0 : bMin (fun i => decide (tTh (gT S) (r * 20 + i) = 0)) (fun i => pTop (layT (gT S) (r * 20 + i) (nI 1)) (nI k) (nI w) r) (i + 1) = stMin (bMin (fun i => decide (tTh (gT S) (r * 20 + i) = 0)) (fun i => pTop (layT (gT S) (r * 20 + i) (nI 1)) (nI k) (nI w) r) i) i (pTop (layT (gT S) (r * 20 + i) (nI 1)) (nI k) (nI w) r) := bMin_t (by simpa using h46)
          have e1 := e0.trans (stMin_n h88)
          exact ih (i + 1) τ3 _ _ (by omega) (by rw [e1]; rfl) (by rw [e1]; exact less_nle h88) hs3 (fg_tr hf (fg_tr hf1 (fg_tr (fq_fg hf2) hf3)))
set_option maxHeartbeats 4000000 in
set_option maxRecDepth 20000 in
theorem c_X5_tame {σ : xH} {K : Int32 → xH → Prop} {S : St} (hS : mS σ S) (hO : tOk (gT S)) (d a : Int32) (hk : ∀ τ, mS τ (oTame S d a).2 → K (oTame S d a).1 τ) : Evi l (oM ad D cy) mX5_tame [.ref 0, .int d, .int a] σ K := by
  have hs := hS.1
  have h8 := ms_8 hs
  refine x_enter (ls := [some (.ref 0), some (.int d), some (.int a), none, none, none]) rfl ?_
  by_cases hc : vN (tN (gT S)) d ∧ vN 3 a
  · unfold oTame at hk
    rw [if_pos hc] at hk
    obtain ⟨d, hd, rfl⟩ := vN_of hc.1 (by omega)
    have hg := ms_g3 hs hd
    have h8d : d < 2 ^ 31 := by omega
    simp only [cn, nI_clamp h8d] at hk
    obtain ⟨r, hr, rfl⟩ := vN_of hc.2 (by decide)
    simp only [nI_clamp (show r < 2 ^ 31 by omega)] at hk
    obtain ⟨k, hk6, ek⟩ := hO.2.1 d hd
    obtain ⟨w, h10, h80, ew⟩ := hO.2.2.1 d hd
    rw [ek, ew] at hk
    refine x_aload_n (i := 0) dX5_tame_0 rfl rfl ?_
    refine x_iload_n (i := 1) dX5_tame_1 rfl rfl ?_
    refine x_iload_n (i := 2) dX5_tame_2 rfl rfl ?_
    refine x_v2i dX5_tame_3 okX5_areBoth ml_X5_146 rfl rfl (Nat.le_of_ble_eq_true rfl) ⟨by decide, by decide⟩ (Nat.le_of_ble_eq_true rfl) (c_X5_areBoth hs _ _ ?_)
    refine x_ifneP (tgt := 15) dX5_tame_6 rfl (fun h6 => ?_) (fun h6 => ?_)
    · skip
      refine x_iconst (v := -1) dX5_tame_15 (by decide) ?_
      refine y_istore_n (i := 3) (ls2 := [_, _, _, _, _, _]) dX5_tame_16 rfl (by decide) rfl rfl ?_
      refine x_sipush (v := nI 999) dX5_tame_17 (by decide) ?_
      refine y_istore (i := 4) (ls2 := [_, _, _, _, _, _]) dX5_tame_20 (by decide) rfl rfl ?_
      refine x_iconstN (n := 0) dX5_tame_22 ?_
      refine y_istore (i := 5) (ls2 := [_, _, _, _, _, _]) dX5_tame_23 (by decide) rfl rfl ?_
      exact l_X5_tame hS hO hd hr hk6 h10 h80 ek ew hk 20 0 σ _ _ rfl rfl rfl hs (fg_rf σ)
    · exact absurd hc h6
  · unfold oTame at hk
    rw [if_neg hc] at hk
    refine x_aload_n (i := 0) dX5_tame_0 rfl rfl ?_
    refine x_iload_n (i := 1) dX5_tame_1 rfl rfl ?_
    refine x_iload_n (i := 2) dX5_tame_2 rfl rfl ?_
    refine x_v2i dX5_tame_3 okX5_areBoth ml_X5_146 rfl rfl (Nat.le_of_ble_eq_true rfl) ⟨by decide, by decide⟩ (Nat.le_of_ble_eq_true rfl) (c_X5_areBoth hs _ _ ?_)
    refine x_ifneP (tgt := 15) dX5_tame_6 rfl (fun h6 => ?_) (fun h6 => ?_)
    · exact absurd h6 hc
    · skip
      refine x_aload_n (i := 0) dX5_tame_9 rfl rfl ?_
      refine x_iconstN (n := 0) dX5_tame_10 ?_
      refine x_v1i dX5_tame_11 okX5_no ml_X5_118 rfl rfl (Nat.le_of_ble_eq_true rfl) ⟨by decide, by decide⟩ (Nat.le_of_ble_eq_true rfl) (c_X5_no hS 0 (by decide) (fun τ hτ => ?_))
      exact x_ireti dX5_tame_14 rfl (hk τ hτ)
set_option maxHeartbeats 4000000 in
set_option maxRecDepth 20000 in
theorem l_X5_clear {K : Int32 → xH → Prop} {σ0 : xH} {S : St} (hS : mS σ0 S) (hO : tOk (gT S)) {r m : Nat} (hr : r < 3) (hm : m ≤ 20) (hk : ∀ τ, mS τ (bR S (bMin (fun i => !decide (tTh (gT S) (r * 20 + i) = 0)) (fun i => pShAll (daysM (layT (gT S) (r * 20 + i) (nI 0)) m)) 20)).2 → K (bR S (bMin (fun i => !decide (tTh (gT S) (r * 20 + i) = 0)) (fun i => pShAll (daysM (layT (gT S) (r * 20 + i) (nI 0)) m)) 20)).1 τ) : ∀ (n i : Nat) (σ : xH) (b : Int32) (y : Int32), i + n = 20 → (b = bI (bMin (fun i => !decide (tTh (gT S) (r * 20 + i) = 0)) (fun i => pShAll (daysM (layT (gT S) (r * 20 + i) (nI 0)) m)) i)) → (y = bV (bMin (fun i => !decide (tTh (gT S) (r * 20 + i) = 0)) (fun i => pShAll (daysM (layT (gT S) (r * 20 + i) (nI 0)) m)) i)) → (ms σ 1 (gT S)) → (fh σ0 σ) → Ex l (oM ad D cy) mX5_clear 31 [some (.ref 0), some (.int (nI r)), some (.int (nI m)), some (.int b), some (.int y), some (.int (nI i)), none, none] [] σ (xQi K) := by
  intro n
  induction n with
  | zero =>
    intro i σ b y hi eb ey hs hf
    have hi : i = 20 := by omega
    subst hi
    refine x_iload (i := 5) dX5_clear_31 rfl ?_
    refine x_bipush (v := nI 20) dX5_clear_33 (by decide) ?_
    refine x_icgeN (tgt := 125) (by omega) (by omega) dX5_clear_35 rfl (fun h35 => ?_) (fun h35 => ?_)
    · skip
      refine x_iload_n (i := 3) dX5_clear_125 rfl rfl ?_
      refine x_ifge (tgt := 137) dX5_clear_126 rfl (fun h126 => ?_) (fun h126 => ?_)
      · skip
        refine x_iload_n (i := 3) dX5_clear_137 rfl rfl ?_
        exact x_ireti dX5_clear_138 rfl (by subst eb; first | (rw [bR_some h126] at hk; exact hk σ (mS_h0 hS hf hs)) | (rw [bR_none h126 (fun b w h => by have := bMin_b _ _ _ b w h; omega)] at hk; exact hk τ hτ))
      · skip
        refine x_aload_n (i := 0) dX5_clear_129 rfl rfl ?_
        refine x_iconstN (n := 3) dX5_clear_130 ?_
        refine x_v1i dX5_clear_131 okX5_no ml_X5_118 rfl rfl (Nat.le_of_ble_eq_true rfl) ⟨by decide, by decide⟩ (Nat.le_of_ble_eq_true rfl) (c_X5_no (mS_h0 hS hf hs) 3 (by decide) (fun τ hτ => ?_))
        refine x_goto (tgt := 138) dX5_clear_134 rfl ?_
        exact x_ireti dX5_clear_138 rfl (by subst eb; first | (rw [bR_some h126] at hk; exact hk σ (mS_h0 hS hf hs)) | (rw [bR_none h126 (fun b w h => by have := bMin_b _ _ _ b w h; omega)] at hk; exact hk τ hτ))
    · exact absurd h35 (by omega)
  | succ n ih =>
    intro i σ b y hi eb ey hs hf
    subst eb
    subst ey
    refine x_iload (i := 5) dX5_clear_31 rfl ?_
    refine x_bipush (v := nI 20) dX5_clear_33 (by decide) ?_
    refine x_icgeN (tgt := 125) (by omega) (by omega) dX5_clear_35 rfl (fun h35 => ?_) (fun h35 => ?_)
    · exact absurd h35 (by omega)
    · skip
      refine x_aload_n (i := 0) dX5_clear_38 rfl rfl ?_
      refine x_getr (i := 0) dX5_clear_39 rfl rfl rfl (by decide) fl_X5_9 inX5 ?_
      refine x_iconstN (n := 3) dX5_clear_42 ?_
      refine x_bipush (v := nI 20) dX5_clear_43 (by decide) ?_
      refine x_iload_n (i := 1) dX5_clear_45 rfl rfl ?_
      refine x_imulN dX5_clear_46 ?_
      refine x_iaddN dX5_clear_47 ?_
      refine x_iload (i := 5) dX5_clear_48 rfl ?_
      refine x_iaddN dX5_clear_50 ?_
      refine x_ialdE dX5_clear_51 rfl (by omega) (by decide) (ms_th2 hs (by omega)) ?_
      refine x_ifle (tgt := 119) dX5_clear_52 rfl (fun h52 => ?_) (fun h52 => ?_)
      · skip
        refine y_iincN (i := 5) (ls2 := [_, _, _, _, _, _, _, _]) dX5_clear_119 rfl (by decide) rfl rfl ?_
        refine x_goto (tgt := 31) dX5_clear_122 rfl ?_
        have h0 := th_le0 hO (by omega) h52
        have e1 : bMin (fun i => !decide (tTh (gT S) (r * 20 + i) = 0)) (fun i => pShAll (daysM (layT (gT S) (r * 20 + i) (nI 0)) m)) (i + 1) = bMin (fun i => !decide (tTh (gT S) (r * 20 + i) = 0)) (fun i => pShAll (daysM (layT (gT S) (r * 20 + i) (nI 0)) m)) i := bMin_f (by simpa using h0)
        exact ih (i + 1) σ _ _ (by omega) (by rw [e1]) (by rw [e1]) hs hf
      · skip
        refine x_aload_n (i := 0) dX5_clear_55 rfl rfl ?_
        refine x_v0v dX5_clear_56 okX5_setsAside ml_X5_153 rfl rfl (Nat.le_of_ble_eq_true rfl) ⟨by decide, by decide⟩ (Nat.le_of_ble_eq_true rfl) (c_X5_setsAside (fun τ1 h1 hf1 => ?_))
        refine x_aload_n (i := 0) dX5_clear_59 rfl rfl ?_
        refine x_iload_n (i := 1) dX5_clear_60 rfl rfl ?_
        refine x_iload (i := 5) dX5_clear_61 rfl ?_
        refine x_iconstN (n := 0) dX5_clear_63 ?_
        refine x_v3v dX5_clear_64 okX5_lies ml_X5_121 rfl rfl (Nat.le_of_ble_eq_true rfl) ⟨by decide, by decide⟩ (Nat.le_of_ble_eq_true rfl) (c_X5_lies (ms_fc hs hf1) hr (by omega) _ (fun τ2 hs2 hf2 => ?_))
        refine x_aload_n (i := 0) dX5_clear_67 rfl rfl ?_
        refine x_iload_n (i := 2) dX5_clear_68 rfl rfl ?_
        refine x_iconstN (n := 0) dX5_clear_69 ?_
        refine x_v2i dX5_clear_70 okX5_onBy ml_X5_159 rfl rfl (Nat.le_of_ble_eq_true rfl) ⟨by decide, by decide⟩ (Nat.le_of_ble_eq_true rfl) (c_X5_onBy (lay_ok hO (r * 20 + i) (v := 0) (by omega)) hs2 (by omega) _ (fun ω h3 hf3 => ?_))
        refine x_top (if_pos (by decide)) ?_
        refine y_istore (i := 6) (ls2 := [_, _, _, _, _, _, _, _]) dX5_clear_73 (by decide) rfl rfl ?_
        refine x_iload_n (i := 3) dX5_clear_75 rfl rfl ?_
        refine x_iflt (tgt := 86) dX5_clear_76 rfl (fun h76 => ?_) (fun h76 => ?_)
        · skip
          refine x_iconstN (n := 1) dX5_clear_86 ?_
          refine x_goto (tgt := 91) dX5_clear_87 rfl ?_
          refine y_istore (i := 7) (ls2 := [_, _, _, _, _, _, _, _]) dX5_clear_91 (by decide) rfl rfl ?_
          refine x_iload (i := 7) dX5_clear_93 rfl ?_
          refine x_ifeq (tgt := 103) dX5_clear_95 rfl (fun h95 => ?_) (fun h95 => ?_)
          · exact absurd h95 (by decide)
          · skip
            refine x_iload (i := 5) dX5_clear_98 rfl ?_
            refine x_goto (tgt := 104) dX5_clear_100 rfl ?_
            refine y_istore_n (i := 3) (ls2 := [_, _, _, _, _, _, _, _]) dX5_clear_104 rfl (by decide) rfl rfl ?_
            refine x_iload (i := 7) dX5_clear_105 rfl ?_
            refine x_ifeq (tgt := 115) dX5_clear_107 rfl (fun h107 => ?_) (fun h107 => ?_)
            · exact absurd h107 (by decide)
            · skip
              refine x_iload (i := 6) dX5_clear_110 rfl ?_
              refine x_goto (tgt := 117) dX5_clear_112 rfl ?_
              refine y_istore (i := 4) (ls2 := [_, _, _, _, _, _, _, _]) dX5_clear_117 (by decide) rfl rfl ?_
              refine y_iincN (i := 5) (ls2 := [_, _, _, _, _, _, _, _]) dX5_clear_119 rfl (by decide) rfl rfl ?_
              refine x_goto (tgt := 31) dX5_clear_122 rfl ?_
              have h0 := th_nle0 h52
              have e0 : bMin (fun i => !decide (tTh (gT S) (r * 20 + i) = 0)) (fun i => pShAll (daysM (layT (gT S) (r * 20 + i) (nI 0)) m)) (i + 1) = stMin (bMin (fun i => !decide (tTh (gT S) (r * 20 + i) = 0)) (fun i => pShAll (daysM (layT (gT S) (r * 20 + i) (nI 0)) m)) i) i (pShAll (daysM (layT (gT S) (r * 20 + i) (nI 0)) m)) := bMin_t (by simpa using h0)
              have e1 := e0.trans (stMin_lt h76 (fun b w h => by have := bMin_b (fun i => !decide (tTh (gT S) (r * 20 + i) = 0)) (fun i => pShAll (daysM (layT (gT S) (r * 20 + i) (nI 0)) m)) i b w h; omega))
              exact x_mask [true, true, true, true, true, true, false, false] <| ih (i + 1) ω _ _ (by omega) (by rw [e1]; rfl) (by rw [e1]; rfl) (ms_keep hs (fun j hj => by rw [h3 j hj, hf2.2.1 3 (by omega) (by omega) (by omega), h1 j hj])) (fh_tr hf (fh_tr (fc_fh hf1 (Or.inr rfl)) (fh_tr (fg_fh hf2) (fg_fh hf3))))
        · skip
          refine x_iload (i := 6) dX5_clear_79 rfl ?_
          refine x_iload (i := 4) dX5_clear_81 rfl ?_
          refine x_icge (tgt := 90) dX5_clear_83 rfl (fun h83 => ?_) (fun h83 => ?_)
          · skip
            refine x_iconstN (n := 0) dX5_clear_90 ?_
            refine y_istore (i := 7) (ls2 := [_, _, _, _, _, _, _, _]) dX5_clear_91 (by decide) rfl rfl ?_
            refine x_iload (i := 7) dX5_clear_93 rfl ?_
            refine x_ifeq (tgt := 103) dX5_clear_95 rfl (fun h95 => ?_) (fun h95 => ?_)
            · skip
              refine x_iload_n (i := 3) dX5_clear_103 rfl rfl ?_
              refine y_istore_n (i := 3) (ls2 := [_, _, _, _, _, _, _, _]) dX5_clear_104 rfl (by decide) rfl rfl ?_
              refine x_iload (i := 7) dX5_clear_105 rfl ?_
              refine x_ifeq (tgt := 115) dX5_clear_107 rfl (fun h107 => ?_) (fun h107 => ?_)
              · skip
                refine x_iload (i := 4) dX5_clear_115 rfl ?_
                refine y_istore (i := 4) (ls2 := [_, _, _, _, _, _, _, _]) dX5_clear_117 (by decide) rfl rfl ?_
                refine y_iincN (i := 5) (ls2 := [_, _, _, _, _, _, _, _]) dX5_clear_119 rfl (by decide) rfl rfl ?_
                refine x_goto (tgt := 31) dX5_clear_122 rfl ?_
                have h0 := th_nle0 h52
                have e0 : bMin (fun i => !decide (tTh (gT S) (r * 20 + i) = 0)) (fun i => pShAll (daysM (layT (gT S) (r * 20 + i) (nI 0)) m)) (i + 1) = stMin (bMin (fun i => !decide (tTh (gT S) (r * 20 + i) = 0)) (fun i => pShAll (daysM (layT (gT S) (r * 20 + i) (nI 0)) m)) i) i (pShAll (daysM (layT (gT S) (r * 20 + i) (nI 0)) m)) := bMin_t (by simpa using h0)
                have e1 := e0.trans (stMin_ge h76 h83)
                exact x_mask [true, true, true, true, true, true, false, false] <| ih (i + 1) ω _ _ (by omega) (by rw [e1]) (by rw [e1]) (ms_keep hs (fun j hj => by rw [h3 j hj, hf2.2.1 3 (by omega) (by omega) (by omega), h1 j hj])) (fh_tr hf (fh_tr (fc_fh hf1 (Or.inr rfl)) (fh_tr (fg_fh hf2) (fg_fh hf3))))
              · exact absurd h107 (by decide)
            · exact absurd h95 (by decide)
          · skip
            refine x_iconstN (n := 1) dX5_clear_86 ?_
            refine x_goto (tgt := 91) dX5_clear_87 rfl ?_
            refine y_istore (i := 7) (ls2 := [_, _, _, _, _, _, _, _]) dX5_clear_91 (by decide) rfl rfl ?_
            refine x_iload (i := 7) dX5_clear_93 rfl ?_
            refine x_ifeq (tgt := 103) dX5_clear_95 rfl (fun h95 => ?_) (fun h95 => ?_)
            · exact absurd h95 (by decide)
            · skip
              refine x_iload (i := 5) dX5_clear_98 rfl ?_
              refine x_goto (tgt := 104) dX5_clear_100 rfl ?_
              refine y_istore_n (i := 3) (ls2 := [_, _, _, _, _, _, _, _]) dX5_clear_104 rfl (by decide) rfl rfl ?_
              refine x_iload (i := 7) dX5_clear_105 rfl ?_
              refine x_ifeq (tgt := 115) dX5_clear_107 rfl (fun h107 => ?_) (fun h107 => ?_)
              · exact absurd h107 (by decide)
              · skip
                refine x_iload (i := 6) dX5_clear_110 rfl ?_
                refine x_goto (tgt := 117) dX5_clear_112 rfl ?_
                refine y_istore (i := 4) (ls2 := [_, _, _, _, _, _, _, _]) dX5_clear_117 (by decide) rfl rfl ?_
                refine y_iincN (i := 5) (ls2 := [_, _, _, _, _, _, _, _]) dX5_clear_119 rfl (by decide) rfl rfl ?_
                refine x_goto (tgt := 31) dX5_clear_122 rfl ?_
                have h0 := th_nle0 h52
                have e0 : bMin (fun i => !decide (tTh (gT S) (r * 20 + i) = 0)) (fun i => pShAll (daysM (layT (gT S) (r * 20 + i) (nI 0)) m)) (i + 1) = stMin (bMin (fun i => !decide (tTh (gT S) (r * 20 + i) = 0)) (fun i => pShAll (daysM (layT (gT S) (r * 20 + i) (nI 0)) m)) i) i (pShAll (daysM (layT (gT S) (r * 20 + i) (nI 0)) m)) := bMin_t (by simpa using h0)
                have e1 := e0.trans (stMin_up h76 h83)
                exact x_mask [true, true, true, true, true, true, false, false] <| ih (i + 1) ω _ _ (by omega) (by rw [e1]; rfl) (by rw [e1]; rfl) (ms_keep hs (fun j hj => by rw [h3 j hj, hf2.2.1 3 (by omega) (by omega) (by omega), h1 j hj])) (fh_tr hf (fh_tr (fc_fh hf1 (Or.inr rfl)) (fh_tr (fg_fh hf2) (fg_fh hf3))))
set_option maxHeartbeats 4000000 in
set_option maxRecDepth 20000 in
theorem c_X5_clear {σ : xH} {K : Int32 → xH → Prop} {S : St} (hS : mS σ S) (hO : tOk (gT S)) (a m : Int32) (hk : ∀ τ, mS τ (oClear S a m).2 → K (oClear S a m).1 τ) : Evi l (oM ad D cy) mX5_clear [.ref 0, .int a, .int m] σ K := by
  have hs := hS.1
  have h8 := ms_8 hs
  refine x_enter (ls := [some (.ref 0), some (.int a), some (.int m), none, none, none, none, none]) rfl ?_
  by_cases hc : vN 3 a ∧ vR (nI 0) (nI 20) m
  · unfold oClear at hk
    rw [if_pos hc] at hk
    have hc2 := hc.2
    obtain ⟨r, hr, rfl⟩ := vN_of hc.1 (by decide)
    simp only [cn, nI_clamp (show r < 2 ^ 31 by omega)] at hk
    obtain ⟨m, _, hm, rfl⟩ := vR_of hc.2 (by decide) (by decide)
    simp only [cn, nI_clamp (show m < 2 ^ 31 by omega)] at hk
    have ed : ∀ p m, daysC (layT (gT S) p (nI 0)) m = daysM (layT (gT S) p (nI 0)) m := fun p m => daysC_eq (lay_ok hO p (v := 0) (by omega)) m
    simp only [ed] at hk
    refine x_iload_n (i := 1) dX5_clear_0 rfl rfl ?_
    refine x_s1i dX5_clear_1 okX5_isStreet ml_X5_112 (Nat.le_of_ble_eq_true rfl) ⟨by decide, by decide⟩ (Nat.le_of_ble_eq_true rfl) (c_X5_isStreet _ ?_)
    refine x_ifeqP (tgt := 17) dX5_clear_4 rfl (fun h4 => ?_) (fun h4 => ?_)
    · exact absurd hc.1 h4
    · skip
      refine x_iload_n (i := 2) dX5_clear_7 rfl rfl ?_
      refine x_iconstN (n := 0) dX5_clear_8 ?_
      refine x_bipush (v := nI 20) dX5_clear_9 (by decide) ?_
      refine x_s3i dX5_clear_11 okX5_in1 ml_X5_52 (Nat.le_of_ble_eq_true rfl) ⟨by decide, by decide⟩ (Nat.le_of_ble_eq_true rfl) (c_X5_in1 _ _ _ ?_)
      refine x_ifneP (tgt := 23) dX5_clear_14 rfl (fun h14 => ?_) (fun h14 => ?_)
      · skip
        refine x_iconst (v := -1) dX5_clear_23 (by decide) ?_
        refine y_istore_n (i := 3) (ls2 := [_, _, _, _, _, _, _, _]) dX5_clear_24 rfl (by decide) rfl rfl ?_
        refine x_iconstN (n := 0) dX5_clear_25 ?_
        refine y_istore (i := 4) (ls2 := [_, _, _, _, _, _, _, _]) dX5_clear_26 (by decide) rfl rfl ?_
        refine x_iconstN (n := 0) dX5_clear_28 ?_
        refine y_istore (i := 5) (ls2 := [_, _, _, _, _, _, _, _]) dX5_clear_29 (by decide) rfl rfl ?_
        exact l_X5_clear hS hO hr hm hk 20 0 σ _ _ rfl rfl rfl hs (fh_rf σ)
      · exact absurd hc.2 h14
  · unfold oClear at hk
    rw [if_neg hc] at hk
    refine x_iload_n (i := 1) dX5_clear_0 rfl rfl ?_
    refine x_s1i dX5_clear_1 okX5_isStreet ml_X5_112 (Nat.le_of_ble_eq_true rfl) ⟨by decide, by decide⟩ (Nat.le_of_ble_eq_true rfl) (c_X5_isStreet _ ?_)
    refine x_ifeqP (tgt := 17) dX5_clear_4 rfl (fun h4 => ?_) (fun h4 => ?_)
    · skip
      refine x_aload_n (i := 0) dX5_clear_17 rfl rfl ?_
      refine x_iconstN (n := 0) dX5_clear_18 ?_
      refine x_v1i dX5_clear_19 okX5_no ml_X5_118 rfl rfl (Nat.le_of_ble_eq_true rfl) ⟨by decide, by decide⟩ (Nat.le_of_ble_eq_true rfl) (c_X5_no hS 0 (by decide) (fun τ hτ => ?_))
      exact x_ireti dX5_clear_22 rfl (hk τ hτ)
    · skip
      refine x_iload_n (i := 2) dX5_clear_7 rfl rfl ?_
      refine x_iconstN (n := 0) dX5_clear_8 ?_
      refine x_bipush (v := nI 20) dX5_clear_9 (by decide) ?_
      refine x_s3i dX5_clear_11 okX5_in1 ml_X5_52 (Nat.le_of_ble_eq_true rfl) ⟨by decide, by decide⟩ (Nat.le_of_ble_eq_true rfl) (c_X5_in1 _ _ _ ?_)
      refine x_ifneP (tgt := 23) dX5_clear_14 rfl (fun h14 => ?_) (fun h14 => ?_)
      · exact absurd ⟨h4, h14⟩ hc
      · skip
        refine x_aload_n (i := 0) dX5_clear_17 rfl rfl ?_
        refine x_iconstN (n := 0) dX5_clear_18 ?_
        refine x_v1i dX5_clear_19 okX5_no ml_X5_118 rfl rfl (Nat.le_of_ble_eq_true rfl) ⟨by decide, by decide⟩ (Nat.le_of_ble_eq_true rfl) (c_X5_no hS 0 (by decide) (fun τ hτ => ?_))
        exact x_ireti dX5_clear_22 rfl (hk τ hτ)
set_option maxHeartbeats 4000000 in
set_option maxRecDepth 20000 in
theorem l_X5_lower {K : Int32 → xH → Prop} {σ0 : xH} {S : St} (hS : mS σ0 S) (hO : tOk (gT S)) {m : Nat} (hm : m ≤ 100) (v : Int32) (o : Option Nat) (hk : ∀ τ, mS τ (oR S o).2 → K (oR S o).1 τ) : ∀ (c : Nat) (σ : xH), c ≤ 6 → o = loF (gT S) m v c → ms σ 1 (gT S) → fh σ0 σ → Ex l (oM ad D cy) mX5_lower 29 [some (.ref 0), some (.int (nI m)), some (.int v), some (.int (nI c))] [] σ (xQi K) := by
  intro c
  induction c with
  | zero =>
    intro σ hc eo hs hf
    refine x_iload_n (i := 3) dX5_lower_29 rfl rfl ?_
    refine x_ifle (tgt := 62) dX5_lower_30 rfl (fun h30 => ?_) (fun h30 => ?_)
    · skip
      refine x_aload_n (i := 0) dX5_lower_62 rfl rfl ?_
      refine x_iconstN (n := 3) dX5_lower_63 ?_
      refine x_v1i dX5_lower_64 okX5_no ml_X5_118 rfl rfl (Nat.le_of_ble_eq_true rfl) ⟨by decide, by decide⟩ (Nat.le_of_ble_eq_true rfl) (c_X5_no (mS_h0 hS hf hs) 3 (by decide) (fun τ hτ => ?_))
      exact x_ireti dX5_lower_67 rfl (by subst eo; exact hk τ hτ)
    · exact absurd (by decide) h30
  | succ c ih =>
    intro σ hc eo hs hf
    have hO1 := setIn_ok hO (v := c + 1) (by omega) (by omega)
    rw [loF, daysC_eq hO1] at eo
    refine x_iload_n (i := 3) dX5_lower_29 rfl rfl ?_
    refine x_ifle (tgt := 62) dX5_lower_30 rfl (fun h30 => ?_) (fun h30 => ?_)
    · exact absurd h30 (nI_nle (by omega) (by omega))
    · skip
      refine x_aload_n (i := 0) dX5_lower_33 rfl rfl ?_
      refine x_v0v dX5_lower_34 okX5_setsAside ml_X5_153 rfl rfl (Nat.le_of_ble_eq_true rfl) ⟨by decide, by decide⟩ (Nat.le_of_ble_eq_true rfl) (c_X5_setsAside (fun τ1 h1 hf1 => ?_))
      refine x_aload_n (i := 0) dX5_lower_37 rfl rfl ?_
      refine x_getr (i := 0) dX5_lower_38 rfl rfl rfl (by decide) fl_X5_9 inX5 ?_
      refine x_iconstN (n := 1) dX5_lower_41 ?_
      refine x_iload_n (i := 3) dX5_lower_42 rfl rfl ?_
      refine x_iastN dX5_lower_43 rfl (by omega) (by decide) ?_
      refine x_aload_n (i := 0) dX5_lower_44 rfl rfl ?_
      refine x_iload_n (i := 1) dX5_lower_45 rfl rfl ?_
      refine x_iconstN (n := 0) dX5_lower_46 ?_
      refine x_v2i dX5_lower_47 okX5_onBy ml_X5_159 rfl rfl (Nat.le_of_ble_eq_true rfl) ⟨by decide, by decide⟩ (Nat.le_of_ble_eq_true rfl) (c_X5_onBy hO1 (ms_setIn (ms_fc hs hf1) _) (by omega) _ (fun ω h3 hf3 => ?_))
      refine x_top (if_pos (by decide)) ?_
      refine x_iload_n (i := 2) dX5_lower_50 rfl rfl ?_
      refine x_icgt (tgt := 56) dX5_lower_51 rfl (fun h51 => ?_) (fun h51 => ?_)
      · skip
        refine y_iincD (i := 3) (ls2 := [_, _, _, _]) dX5_lower_56 rfl (by decide) rfl rfl ?_
        refine x_goto (tgt := 29) dX5_lower_59 rfl ?_
        exact ih ω (by omega) (eo.trans (if_pos h51)) (ms_keep hs (fun j hj => by rw [h3 j hj, xui_o _ _ (by omega), h1 j hj])) (fh_tr hf (fh_tr (fc_fh hf1 (Or.inr rfl)) (fh_tr (fg_fh fg_1) (fg_fh hf3))))
      · skip
        refine x_iload_n (i := 3) dX5_lower_54 rfl rfl ?_
        exact x_ireti dX5_lower_55 rfl (by have e : o = some (c + 1) := eo.trans (if_neg h51); subst e; exact hk ω (mS_h0 hS (fh_tr hf (fh_tr (fc_fh hf1 (Or.inr rfl)) (fh_tr (fg_fh fg_1) (fg_fh hf3)))) (ms_keep hs (fun j hj => by rw [h3 j hj, xui_o _ _ (by omega), h1 j hj]))))
set_option maxHeartbeats 4000000 in
set_option maxRecDepth 20000 in
theorem c_X5_lower {σ : xH} {K : Int32 → xH → Prop} {S : St} (hS : mS σ S) (hO : tOk (gT S)) (m v : Int32) (hk : ∀ τ, mS τ (oLower S m v).2 → K (oLower S m v).1 τ) : Evi l (oM ad D cy) mX5_lower [.ref 0, .int m, .int v] σ K := by
  have hs := hS.1
  have h8 := ms_8 hs
  refine x_enter (ls := [some (.ref 0), some (.int m), some (.int v), none]) rfl ?_
  by_cases hc : vR (nI 0) (nI 20) m ∧ vR (nI 0) (nI 99999) v
  · unfold oLower at hk
    rw [if_pos hc] at hk
    have hc2 := hc.2
    obtain ⟨m, _, hm, rfl⟩ := vR_of hc.1 (by decide) (by decide)
    simp only [cn, nI_clamp (show m < 2 ^ 31 by omega)] at hk
    refine x_iload_n (i := 1) dX5_lower_0 rfl rfl ?_
    refine x_iconstN (n := 0) dX5_lower_1 ?_
    refine x_bipush (v := nI 20) dX5_lower_2 (by decide) ?_
    refine x_s3i dX5_lower_4 okX5_in1 ml_X5_52 (Nat.le_of_ble_eq_true rfl) ⟨by decide, by decide⟩ (Nat.le_of_ble_eq_true rfl) (c_X5_in1 _ _ _ ?_)
    refine x_ifeqP (tgt := 20) dX5_lower_7 rfl (fun h7 => ?_) (fun h7 => ?_)
    · exact absurd hc.1 h7
    · skip
      refine x_iload_n (i := 2) dX5_lower_10 rfl rfl ?_
      refine x_iconstN (n := 0) dX5_lower_11 ?_
      refine x_ldc (v := nI 99999) dX5_lower_12 kc_X5_165 ?_
      refine x_s3i dX5_lower_14 okX5_in1 ml_X5_52 (Nat.le_of_ble_eq_true rfl) ⟨by decide, by decide⟩ (Nat.le_of_ble_eq_true rfl) (c_X5_in1 _ _ _ ?_)
      refine x_ifneP (tgt := 26) dX5_lower_17 rfl (fun h17 => ?_) (fun h17 => ?_)
      · skip
        refine x_bipush (v := nI 6) dX5_lower_26 (by decide) ?_
        refine y_istore_n (i := 3) (ls2 := [_, _, _, _]) dX5_lower_28 rfl (by decide) rfl rfl ?_
        exact l_X5_lower hS hO (by omega) v _ hk 6 σ (by omega) rfl hs (fh_rf σ)
      · exact absurd hc.2 h17
  · unfold oLower at hk
    rw [if_neg hc] at hk
    refine x_iload_n (i := 1) dX5_lower_0 rfl rfl ?_
    refine x_iconstN (n := 0) dX5_lower_1 ?_
    refine x_bipush (v := nI 20) dX5_lower_2 (by decide) ?_
    refine x_s3i dX5_lower_4 okX5_in1 ml_X5_52 (Nat.le_of_ble_eq_true rfl) ⟨by decide, by decide⟩ (Nat.le_of_ble_eq_true rfl) (c_X5_in1 _ _ _ ?_)
    refine x_ifeqP (tgt := 20) dX5_lower_7 rfl (fun h7 => ?_) (fun h7 => ?_)
    · skip
      refine x_aload_n (i := 0) dX5_lower_20 rfl rfl ?_
      refine x_iconstN (n := 0) dX5_lower_21 ?_
      refine x_v1i dX5_lower_22 okX5_no ml_X5_118 rfl rfl (Nat.le_of_ble_eq_true rfl) ⟨by decide, by decide⟩ (Nat.le_of_ble_eq_true rfl) (c_X5_no hS 0 (by decide) (fun τ hτ => ?_))
      exact x_ireti dX5_lower_25 rfl (hk τ hτ)
    · skip
      refine x_iload_n (i := 2) dX5_lower_10 rfl rfl ?_
      refine x_iconstN (n := 0) dX5_lower_11 ?_
      refine x_ldc (v := nI 99999) dX5_lower_12 kc_X5_165 ?_
      refine x_s3i dX5_lower_14 okX5_in1 ml_X5_52 (Nat.le_of_ble_eq_true rfl) ⟨by decide, by decide⟩ (Nat.le_of_ble_eq_true rfl) (c_X5_in1 _ _ _ ?_)
      refine x_ifneP (tgt := 26) dX5_lower_17 rfl (fun h17 => ?_) (fun h17 => ?_)
      · exact absurd ⟨h7, h17⟩ hc
      · skip
        refine x_aload_n (i := 0) dX5_lower_20 rfl rfl ?_
        refine x_iconstN (n := 0) dX5_lower_21 ?_
        refine x_v1i dX5_lower_22 okX5_no ml_X5_118 rfl rfl (Nat.le_of_ble_eq_true rfl) ⟨by decide, by decide⟩ (Nat.le_of_ble_eq_true rfl) (c_X5_no hS 0 (by decide) (fun τ hτ => ?_))
        exact x_ireti dX5_lower_25 rfl (hk τ hτ)
end
