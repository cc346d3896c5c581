section
variable {l : Launch} {ad : Nat → Nat} {D : va_G} {cy : Nat → ClassId}
/-! A TOWN as a value: day, inches, how many drivers, things, ages, kinds, wishes, streets -/
abbrev Tw : Type := Int32 × Int32 × Nat × (Nat → Int32) × (Nat → Int32) × (Nat → Int32) × (Nat → Int32) × (Nat → Nat)
abbrev tDay (T : Tw) : Int32 := T.1
abbrev tIn (T : Tw) : Int32 := T.2.1
abbrev tN (T : Tw) : Nat := T.2.2.1
abbrev tTh (T : Tw) : Nat → Int32 := T.2.2.2.1
abbrev tAg (T : Tw) : Nat → Int32 := T.2.2.2.2.1
abbrev tKd (T : Tw) : Nat → Int32 := T.2.2.2.2.2.1
abbrev tWs (T : Tw) : Nat → Int32 := T.2.2.2.2.2.2.1
abbrev tGo (T : Tw) : Nat → Nat := T.2.2.2.2.2.2.2
/-- the town at place t of the class's heap -/
def tw (σ : xH) (t : Nat) (T : Tw) : Prop := σ.1 t 0 = tDay T ∧ σ.1 t 1 = tIn T ∧ σ.1 t 2 = nI (tN T) ∧ (∀ i, i < 60 → σ.1 (t + 1) i = tTh T i) ∧ (∀ i, i < 60 → σ.1 (t + 2) i = tAg T i) ∧ (∀ d, d < tN T → σ.1 (t + 3) d = tKd T d) ∧ (∀ d, d < tN T → σ.1 (t + 4) d = tWs T d) ∧ (∀ d, d < tN T → σ.1 (t + 5) d = nI (tGo T d)) ∧ tN T ≤ 8 ∧ ∀ d, d < tN T → tGo T d < 3
theorem tw_day {σ : xH} {t : Nat} {T : Tw} (h : tw σ t T) : σ.1 t 0 = tDay T := h.1
theorem tw_in {σ : xH} {t : Nat} {T : Tw} (h : tw σ t T) : σ.1 t 1 = tIn T := h.2.1
theorem tw_n {σ : xH} {t : Nat} {T : Tw} (h : tw σ t T) : σ.1 t 2 = nI (tN T) := h.2.2.1
theorem tw_th {σ : xH} {t : Nat} {T : Tw} (h : tw σ t T) {i : Nat} (hi : i < 60) : σ.1 (t + 1) i = tTh T i := h.2.2.2.1 i hi
theorem tw_ag {σ : xH} {t : Nat} {T : Tw} (h : tw σ t T) {i : Nat} (hi : i < 60) : σ.1 (t + 2) i = tAg T i := h.2.2.2.2.1 i hi
theorem tw_kd {σ : xH} {t : Nat} {T : Tw} (h : tw σ t T) {d : Nat} (hd : d < tN T) : σ.1 (t + 3) d = tKd T d := h.2.2.2.2.2.1 d hd
theorem tw_ws {σ : xH} {t : Nat} {T : Tw} (h : tw σ t T) {d : Nat} (hd : d < tN T) : σ.1 (t + 4) d = tWs T d := h.2.2.2.2.2.2.1 d hd
theorem tw_go {σ : xH} {t : Nat} {T : Tw} (h : tw σ t T) {d : Nat} (hd : d < tN T) : σ.1 (t + 5) d = nI (tGo T d) := h.2.2.2.2.2.2.2.1 d hd
theorem tw_8 {σ : xH} {t : Nat} {T : Tw} (h : tw σ t T) : tN T ≤ 8 := h.2.2.2.2.2.2.2.2.1
theorem tw_g3 {σ : xH} {t : Nat} {T : Tw} (h : tw σ t T) {d : Nat} (hd : d < tN T) : tGo T d < 3 := h.2.2.2.2.2.2.2.2.2 d hd
/-- only the town's cells have changed -/
def fr (t : Nat) (σ τ : xH) : Prop := τ.2 = σ.2 ∧ ∀ q, (q < t ∨ t + 5 < q) → τ.1 q = σ.1 q
theorem fr_rf (t : Nat) (σ : xH) : fr t σ σ := ⟨rfl, fun _ _ => rfl⟩
theorem fr_tr {t : Nat} {σ τ υ : xH} (h : fr t σ τ) (g : fr t τ υ) : fr t σ υ := ⟨g.1.trans h.1, fun q hq => (g.2 q hq).trans (h.2 q hq)⟩
theorem tw_fr {σ τ : xH} {t u : Nat} {T : Tw} (h : tw σ u T) (f : fr t σ τ) (hu : u + 5 < t ∨ t + 5 < u) : tw τ u T := by
  have e : ∀ j, j ≤ 5 → τ.1 (u + j) = σ.1 (u + j) := fun j hj => f.2 (u + j) (by omega)
  have e0 : τ.1 u = σ.1 u := f.2 u (by omega)
  refine ⟨?_, ?_, ?_, ?_, ?_, ?_, ?_, ?_, h.2.2.2.2.2.2.2.2⟩
  · rw [e0]; exact tw_day h
  · rw [e0]; exact tw_in h
  · rw [e0]; exact tw_n h
  · intro i hi; rw [e 1 (by omega)]; exact tw_th h hi
  · intro i hi; rw [e 2 (by omega)]; exact tw_ag h hi
  · intro i hi; rw [e 3 (by omega)]; exact tw_kd h hi
  · intro i hi; rw [e 4 (by omega)]; exact tw_ws h hi
  · intro i hi; rw [e 5 (by omega)]; exact tw_go h hi
/-! what a driver does in a street, stretch by stretch -/
def fTop (k w b : Int32) : Int32 := if b + fHur k ≤ w then b + fHur k else w
def fNext (k w t h g b : Int32) : Int32 := if t = 0 then fTop k w b else if fTop k w b ≤ fSlow k w t h g then fTop k w b else fSlow k w t h g
def fP (k w h : Int32) (th ag : Nat → Int32) : Nat → Int32
  | 0 => w
  | i + 1 => fNext k w (th i) h (ag i) (fP k w h th ag i)
def fT (k w h : Int32) (th ag : Nat → Int32) : Nat → Int32
  | 0 => nI 0
  | i + 1 => if fP k w h th ag (i + 1) ≤ 0 then fT k w h th ag i else fT k w h th ag i + nI 1227 / fP k w h th ag (i + 1)
def fS (k w h : Int32) (th ag : Nat → Int32) : Nat → Int32
  | 0 => nI 0
  | i + 1 => if th i = nI 1 then fS k w h th ag i + fShake k (fP k w h th ag (i + 1)) h else fS k w h th ag i
def fM (k w h : Int32) (th ag : Nat → Int32) : Nat → Int32
  | 0 => nI 0
  | i + 1 => if fM k w h th ag i < fP k w h th ag (i + 1) then fP k w h th ag (i + 1) else fM k w h th ag i
def pP (T : Tw) (k w : Int32) (r i : Nat) : Int32 := fP k w (tIn T) (fun i => tTh T (r * 20 + i)) (fun i => tAg T (r * 20 + i)) i
def pTime (T : Tw) (k w : Int32) (r : Nat) : Int32 := fT k w (tIn T) (fun i => tTh T (r * 20 + i)) (fun i => tAg T (r * 20 + i)) 20
def pShake (T : Tw) (k w : Int32) (r : Nat) : Int32 := fS k w (tIn T) (fun i => tTh T (r * 20 + i)) (fun i => tAg T (r * 20 + i)) 20
def pTop (T : Tw) (k w : Int32) (r : Nat) : Int32 := fM k w (tIn T) (fun i => tTh T (r * 20 + i)) (fun i => tAg T (r * 20 + i)) 20
set_option maxHeartbeats 4000000 in
set_option maxRecDepth 20000 in
theorem c_X3_hasDriver {σ : xH} {K : Int32 → xH → Prop} {t : Nat} {T : Tw} (hT : isT t) (hw : tw σ t T) (v : Int32) (hk : K (xb (¬ v < 0 ∧ ¬ nI (tN T) ≤ v)) σ) : Evi l (oC ad D cy) mX3_hasDriver [.ref t, .int v] σ K := by
  refine x_enter (ls := [some (.ref t), some (.int v)]) rfl ?_
  refine x_iload_n (i := 1) dX3_hasDriver_0 rfl rfl ?_
  refine x_iflt (tgt := 16) dX3_hasDriver_1 rfl (fun h1 => ?_) (fun h1 => ?_)
  · skip
    refine x_iconstN (n := 0) dX3_hasDriver_16 ?_
    exact x_iretz dX3_hasDriver_17 rfl (by decide) (by simpa (decide := true) [xb, h1] using hk)
  · skip
    refine x_iload_n (i := 1) dX3_hasDriver_4 rfl rfl ?_
    refine x_aload_n (i := 0) dX3_hasDriver_5 rfl rfl ?_
    refine x_getiE (i := 2) dX3_hasDriver_6 (sT0 hT) rfl rfl (by decide) fl_X3_18 inX3 (tw_n hw) ?_
    refine x_icge (tgt := 16) dX3_hasDriver_9 rfl (fun h9 => ?_) (fun h9 => ?_)
    · skip
      refine x_iconstN (n := 0) dX3_hasDriver_16 ?_
      exact x_iretz dX3_hasDriver_17 rfl (by decide) (by simpa (decide := true) [xb, h1, h9] using hk)
    · skip
      refine x_iconstN (n := 1) dX3_hasDriver_12 ?_
      refine x_goto (tgt := 17) dX3_hasDriver_13 rfl ?_
      exact x_iretz dX3_hasDriver_17 rfl (by decide) (by simpa (decide := true) [xb, h1, h9] using hk)
set_option maxHeartbeats 4000000 in
set_option maxRecDepth 20000 in
theorem c_X3_nextPace {σ : xH} {K : Int32 → xH → Prop} {t : Nat} {T : Tw} (hT : isT t) (hw : tw σ t T) (k w b : Int32) {p : Nat} (hp : p < 60) (hk : K (fNext k w (tTh T p) (tIn T) (tAg T p) b) σ) : Evi l (oC ad D cy) mX3_nextPace [.ref t, .int k, .int w, .int (nI p), .int b] σ K := by
  refine x_enter (ls := [some (.ref t), some (.int k), some (.int w), some (.int (nI p)), some (.int b), none, none]) rfl ?_
  refine x_iload (i := 4) dX3_nextPace_0 rfl ?_
  refine x_iload_n (i := 1) dX3_nextPace_2 rfl rfl ?_
  refine x_s1i dX3_nextPace_3 okX0_hurries ml_X3_51 (Nat.le_of_ble_eq_true rfl) ⟨by decide, by decide⟩ (Nat.le_of_ble_eq_true rfl) (c_X0_hurries _ ?_)
  refine x_iadd dX3_nextPace_6 ?_
  refine y_istore (i := 5) (ls2 := [_, _, _, _, _, _, _]) dX3_nextPace_7 (by decide) rfl rfl ?_
  refine x_iload (i := 5) dX3_nextPace_9 rfl ?_
  refine x_iload_n (i := 2) dX3_nextPace_11 rfl rfl ?_
  refine x_icle (tgt := 18) dX3_nextPace_12 rfl (fun h12 => ?_) (fun h12 => ?_)
  · skip
    refine x_aload_n (i := 0) dX3_nextPace_18 rfl rfl ?_
    refine x_getr (i := 3) dX3_nextPace_19 (sT0 hT) rfl rfl (by decide) fl_X3_21 inX3 ?_
    refine x_iload_n (i := 3) dX3_nextPace_22 rfl rfl ?_
    refine x_ialdE dX3_nextPace_23 (sT1 hT) (by omega) (by decide) (tw_th hw (by omega)) ?_
    refine x_ifne (tgt := 30) dX3_nextPace_24 rfl (fun h24 => ?_) (fun h24 => ?_)
    · skip
      refine x_iload_n (i := 1) dX3_nextPace_30 rfl rfl ?_
      refine x_iload_n (i := 2) dX3_nextPace_31 rfl rfl ?_
      refine x_aload_n (i := 0) dX3_nextPace_32 rfl rfl ?_
      refine x_getr (i := 3) dX3_nextPace_33 (sT0 hT) rfl rfl (by decide) fl_X3_21 inX3 ?_
      refine x_iload_n (i := 3) dX3_nextPace_36 rfl rfl ?_
      refine x_ialdE dX3_nextPace_37 (sT1 hT) (by omega) (by decide) (tw_th hw (by omega)) ?_
      refine x_aload_n (i := 0) dX3_nextPace_38 rfl rfl ?_
      refine x_getiE (i := 1) dX3_nextPace_39 (sT0 hT) rfl rfl (by decide) fl_X3_15 inX3 (tw_in hw) ?_
      refine x_aload_n (i := 0) dX3_nextPace_42 rfl rfl ?_
      refine x_getr (i := 4) dX3_nextPace_43 (sT0 hT) rfl rfl (by decide) fl_X3_25 inX3 ?_
      refine x_iload_n (i := 3) dX3_nextPace_46 rfl rfl ?_
      refine x_ialdE dX3_nextPace_47 (sT2 hT) (by omega) (by decide) (tw_ag hw (by omega)) ?_
      refine x_s5i dX3_nextPace_48 okX0_slowsTo ml_X3_56 (Nat.le_of_ble_eq_true rfl) ⟨by decide, by decide⟩ (Nat.le_of_ble_eq_true rfl) (c_X0_slowsTo _ _ _ _ _ ?_)
      refine y_istore (i := 6) (ls2 := [_, _, _, _, _, _, _]) dX3_nextPace_51 (by decide) rfl rfl ?_
      refine x_iload (i := 6) dX3_nextPace_53 rfl ?_
      refine x_iload (i := 5) dX3_nextPace_55 rfl ?_
      refine x_icge (tgt := 65) dX3_nextPace_57 rfl (fun h57 => ?_) (fun h57 => ?_)
      · skip
        refine x_iload (i := 5) dX3_nextPace_65 rfl ?_
        exact x_ireti dX3_nextPace_67 rfl (by first | (simpa (decide := true) [fNext, fTop, h12, h24, h57] using hk) | (exfalso; simp_all (decide := true); done))
      · skip
        refine x_iload (i := 6) dX3_nextPace_60 rfl ?_
        refine x_goto (tgt := 67) dX3_nextPace_62 rfl ?_
        exact x_ireti dX3_nextPace_67 rfl (by first | (simpa (decide := true) [fNext, fTop, h12, h24, h57] using hk) | (exfalso; simp_all (decide := true); done))
    · skip
      refine x_iload (i := 5) dX3_nextPace_27 rfl ?_
      exact x_ireti dX3_nextPace_29 rfl (by first | (simpa (decide := true) [fNext, fTop, h12, h24] using hk) | (exfalso; simp_all (decide := true); done))
  · skip
    refine x_iload_n (i := 2) dX3_nextPace_15 rfl rfl ?_
    refine y_istore (i := 5) (ls2 := [_, _, _, _, _, _, _]) dX3_nextPace_16 (by decide) rfl rfl ?_
    refine x_aload_n (i := 0) dX3_nextPace_18 rfl rfl ?_
    refine x_getr (i := 3) dX3_nextPace_19 (sT0 hT) rfl rfl (by decide) fl_X3_21 inX3 ?_
    refine x_iload_n (i := 3) dX3_nextPace_22 rfl rfl ?_
    refine x_ialdE dX3_nextPace_23 (sT1 hT) (by omega) (by decide) (tw_th hw (by omega)) ?_
    refine x_ifne (tgt := 30) dX3_nextPace_24 rfl (fun h24 => ?_) (fun h24 => ?_)
    · skip
      refine x_iload_n (i := 1) dX3_nextPace_30 rfl rfl ?_
      refine x_iload_n (i := 2) dX3_nextPace_31 rfl rfl ?_
      refine x_aload_n (i := 0) dX3_nextPace_32 rfl rfl ?_
      refine x_getr (i := 3) dX3_nextPace_33 (sT0 hT) rfl rfl (by decide) fl_X3_21 inX3 ?_
      refine x_iload_n (i := 3) dX3_nextPace_36 rfl rfl ?_
      refine x_ialdE dX3_nextPace_37 (sT1 hT) (by omega) (by decide) (tw_th hw (by omega)) ?_
      refine x_aload_n (i := 0) dX3_nextPace_38 rfl rfl ?_
      refine x_getiE (i := 1) dX3_nextPace_39 (sT0 hT) rfl rfl (by decide) fl_X3_15 inX3 (tw_in hw) ?_
      refine x_aload_n (i := 0) dX3_nextPace_42 rfl rfl ?_
      refine x_getr (i := 4) dX3_nextPace_43 (sT0 hT) rfl rfl (by decide) fl_X3_25 inX3 ?_
      refine x_iload_n (i := 3) dX3_nextPace_46 rfl rfl ?_
      refine x_ialdE dX3_nextPace_47 (sT2 hT) (by omega) (by decide) (tw_ag hw (by omega)) ?_
      refine x_s5i dX3_nextPace_48 okX0_slowsTo ml_X3_56 (Nat.le_of_ble_eq_true rfl) ⟨by decide, by decide⟩ (Nat.le_of_ble_eq_true rfl) (c_X0_slowsTo _ _ _ _ _ ?_)
      refine y_istore (i := 6) (ls2 := [_, _, _, _, _, _, _]) dX3_nextPace_51 (by decide) rfl rfl ?_
      refine x_iload (i := 6) dX3_nextPace_53 rfl ?_
      refine x_iload (i := 5) dX3_nextPace_55 rfl ?_
      refine x_icge (tgt := 65) dX3_nextPace_57 rfl (fun h57 => ?_) (fun h57 => ?_)
      · skip
        refine x_iload (i := 5) dX3_nextPace_65 rfl ?_
        exact x_ireti dX3_nextPace_67 rfl (by first | (simpa (decide := true) [fNext, fTop, h12, h24, h57] using hk) | (exfalso; simp_all (decide := true); done))
      · skip
        refine x_iload (i := 6) dX3_nextPace_60 rfl ?_
        refine x_goto (tgt := 67) dX3_nextPace_62 rfl ?_
        exact x_ireti dX3_nextPace_67 rfl (by first | (simpa (decide := true) [fNext, fTop, h12, h24, h57] using hk) | (exfalso; simp_all (decide := true); done))
    · skip
      refine x_iload (i := 5) dX3_nextPace_27 rfl ?_
      exact x_ireti dX3_nextPace_29 rfl (by first | (simpa (decide := true) [fNext, fTop, h12, h24] using hk) | (exfalso; simp_all (decide := true); done))
set_option maxHeartbeats 4000000 in
set_option maxRecDepth 20000 in
theorem l_X3_paceOn {σ : xH} {K : Int32 → xH → Prop} {t : Nat} {T : Tw} (hT : isT t) (hw : tw σ t T) (k w : Int32) {r : Nat} (hr : r < 3) {j : Nat} (hj : j < 20) (hk : K (pP T k w r (j + 1)) σ) : ∀ (n i : Nat) (p : Int32), i + n = j + 1 → p = pP T k w r i → Ex l (oC ad D cy) mX3_paceOn 6 [some (.ref t), some (.int k), some (.int w), some (.int (nI r)), some (.int (nI j)), some (.int p), some (.int (nI i))] [] σ (xQi K) := by
  intro n
  induction n with
  | zero =>
    intro i p hi e_p
    have hi : i = j + 1 := by omega
    subst hi
    refine x_iload (i := 6) dX3_paceOn_6 rfl ?_
    refine x_iload (i := 4) dX3_paceOn_8 rfl ?_
    refine x_icgtN (tgt := 35) (by omega) (by omega) dX3_paceOn_10 rfl (fun h10 => ?_) (fun h10 => ?_)
    · skip
      refine x_iload (i := 5) dX3_paceOn_35 rfl ?_
      exact x_ireti dX3_paceOn_37 rfl (e_p ▸ hk)
    · exact absurd h10 (by omega)
  | succ n ih =>
    intro i p hi e_p
    refine x_iload (i := 6) dX3_paceOn_6 rfl ?_
    refine x_iload (i := 4) dX3_paceOn_8 rfl ?_
    refine x_icgtN (tgt := 35) (by omega) (by omega) dX3_paceOn_10 rfl (fun h10 => ?_) (fun h10 => ?_)
    · exact absurd h10 (by omega)
    · skip
      refine x_aload_n (i := 0) dX3_paceOn_13 rfl rfl ?_
      refine x_iload_n (i := 1) dX3_paceOn_14 rfl rfl ?_
      refine x_iload_n (i := 2) dX3_paceOn_15 rfl rfl ?_
      refine x_iload_n (i := 3) dX3_paceOn_16 rfl rfl ?_
      refine x_iload (i := 6) dX3_paceOn_17 rfl ?_
      refine x_pi rfl rfl rfl dX3_paceOn_19 okX4_placeOf (Nat.le_of_ble_eq_true rfl) ⟨by decide, by decide⟩ (Nat.le_of_ble_eq_true rfl) (c_X4_placeOf _ _ ?_)
      refine x_iload (i := 5) dX3_paceOn_22 rfl ?_
      refine x_v4i dX3_paceOn_24 okX3_nextPace ml_X3_60 (sT0 hT) rfl (Nat.le_of_ble_eq_true rfl) ⟨by decide, by decide⟩ (Nat.le_of_ble_eq_true rfl) (c_X3_nextPace hT hw _ _ _ (by omega) ?_)
      refine y_istore (i := 5) (ls2 := [_, _, _, _, _, _, _]) dX3_paceOn_27 (by decide) rfl rfl ?_
      refine y_iincN (i := 6) (ls2 := [_, _, _, _, _, _, _]) dX3_paceOn_29 rfl (by decide) rfl rfl ?_
      refine x_goto (tgt := 6) dX3_paceOn_32 rfl ?_
      exact ih (i + 1) _ (by omega) (by rw [e_p]; rfl)
set_option maxHeartbeats 4000000 in
set_option maxRecDepth 20000 in
theorem c_X3_paceOn {σ : xH} {K : Int32 → xH → Prop} {t : Nat} {T : Tw} (hT : isT t) (hw : tw σ t T) (k w : Int32) {r : Nat} (hr : r < 3) {j : Nat} (hj : j < 20) (hk : K (pP T k w r (j + 1)) σ) : Evi l (oC ad D cy) mX3_paceOn [.ref t, .int k, .int w, .int (nI r), .int (nI j)] σ K := by
  refine x_enter (ls := [some (.ref t), some (.int k), some (.int w), some (.int (nI r)), some (.int (nI j)), none, none]) rfl ?_
  refine x_iload_n (i := 2) dX3_paceOn_0 rfl rfl ?_
  refine y_istore (i := 5) (ls2 := [_, _, _, _, _, _, _]) dX3_paceOn_1 (by decide) rfl rfl ?_
  refine x_iconstN (n := 0) dX3_paceOn_3 ?_
  refine y_istore (i := 6) (ls2 := [_, _, _, _, _, _, _]) dX3_paceOn_4 (by decide) rfl rfl ?_
  exact l_X3_paceOn hT hw k w hr hj hk (j + 1) 0 _ (by omega) rfl
set_option maxHeartbeats 4000000 in
set_option maxRecDepth 20000 in
theorem l_X3_topPace {σ : xH} {K : Int32 → xH → Prop} {t : Nat} {T : Tw} (hT : isT t) (hw : tw σ t T) (k w : Int32) {r : Nat} (hr : r < 3) (hk : K (pTop T k w r) σ) : ∀ (n i : Nat) (p s : Int32), i + n = 20 → p = pP T k w r i → s = fM k w (tIn T) (fun i => tTh T (r * 20 + i)) (fun i => tAg T (r * 20 + i)) i → Ex l (oC ad D cy) mX3_topPace 9 [some (.ref t), some (.int k), some (.int w), some (.int (nI r)), some (.int p), some (.int s), some (.int (nI i))] [] σ (xQi K) := by
  intro n
  induction n with
  | zero =>
    intro i p s hi e_p e_s
    have hi : i = 20 := by omega
    subst hi
    refine x_iload (i := 6) dX3_topPace_9 rfl ?_
    refine x_bipush (v := nI 20) dX3_topPace_11 (by decide) ?_
    refine x_icgeN (tgt := 47) (by omega) (by omega) dX3_topPace_13 rfl (fun h13 => ?_) (fun h13 => ?_)
    · skip
      refine x_iload (i := 5) dX3_topPace_47 rfl ?_
      exact x_ireti dX3_topPace_49 rfl (e_s ▸ hk)
    · exact absurd h13 (by omega)
  | succ n ih =>
    intro i p s hi e_p e_s
    refine x_iload (i := 6) dX3_topPace_9 rfl ?_
    refine x_bipush (v := nI 20) dX3_topPace_11 (by decide) ?_
    refine x_icgeN (tgt := 47) (by omega) (by omega) dX3_topPace_13 rfl (fun h13 => ?_) (fun h13 => ?_)
    · exact absurd h13 (by omega)
    · skip
      refine x_aload_n (i := 0) dX3_topPace_16 rfl rfl ?_
      refine x_iload_n (i := 1) dX3_topPace_17 rfl rfl ?_
      refine x_iload_n (i := 2) dX3_topPace_18 rfl rfl ?_
      refine x_iload_n (i := 3) dX3_topPace_19 rfl rfl ?_
      refine x_iload (i := 6) dX3_topPace_20 rfl ?_
      refine x_pi rfl rfl rfl dX3_topPace_22 okX4_placeOf (Nat.le_of_ble_eq_true rfl) ⟨by decide, by decide⟩ (Nat.le_of_ble_eq_true rfl) (c_X4_placeOf _ _ ?_)
      refine x_iload (i := 4) dX3_topPace_25 rfl ?_
      refine x_v4i dX3_topPace_27 okX3_nextPace ml_X3_60 (sT0 hT) rfl (Nat.le_of_ble_eq_true rfl) ⟨by decide, by decide⟩ (Nat.le_of_ble_eq_true rfl) (c_X3_nextPace hT hw _ _ _ (by omega) ?_)
      refine y_istore (i := 4) (ls2 := [_, _, _, _, _, _, _]) dX3_topPace_30 (by decide) rfl rfl ?_
      refine x_iload (i := 5) dX3_topPace_32 rfl ?_
      refine x_iload (i := 4) dX3_topPace_34 rfl ?_
      refine x_max dX3_topPace_36 ml_X3_64 sm_J9_max_7cf53 in_J9 co_J9_max_7cf53 (by decide) (Nat.le_of_ble_eq_true rfl) ?_
      refine y_istore (i := 5) (ls2 := [_, _, _, _, _, _, _]) dX3_topPace_39 (by decide) rfl rfl ?_
      refine y_iincN (i := 6) (ls2 := [_, _, _, _, _, _, _]) dX3_topPace_41 rfl (by decide) rfl rfl ?_
      refine x_goto (tgt := 9) dX3_topPace_44 rfl ?_
      exact ih (i + 1) _ _ (by omega) (by rw [e_p]; rfl) (by rw [e_s, e_p]; rfl)
set_option maxHeartbeats 4000000 in
set_option maxRecDepth 20000 in
theorem c_X3_topPace {σ : xH} {K : Int32 → xH → Prop} {t : Nat} {T : Tw} (hT : isT t) (hw : tw σ t T) (k w : Int32) {r : Nat} (hr : r < 3) (hk : K (pTop T k w r) σ) : Evi l (oC ad D cy) mX3_topPace [.ref t, .int k, .int w, .int (nI r)] σ K := by
  refine x_enter (ls := [some (.ref t), some (.int k), some (.int w), some (.int (nI r)), none, none, none]) rfl ?_
  refine x_iload_n (i := 2) dX3_topPace_0 rfl rfl ?_
  refine y_istore (i := 4) (ls2 := [_, _, _, _, _, _, _]) dX3_topPace_1 (by decide) rfl rfl ?_
  refine x_iconstN (n := 0) dX3_topPace_3 ?_
  refine y_istore (i := 5) (ls2 := [_, _, _, _, _, _, _]) dX3_topPace_4 (by decide) rfl rfl ?_
  refine x_iconstN (n := 0) dX3_topPace_6 ?_
  refine y_istore (i := 6) (ls2 := [_, _, _, _, _, _, _]) dX3_topPace_7 (by decide) rfl rfl ?_
  exact l_X3_topPace hT hw k w hr hk 20 0 _ _ rfl rfl rfl
set_option maxHeartbeats 4000000 in
set_option maxRecDepth 20000 in
theorem l_X3_timeFor {σ : xH} {K : Int32 → xH → Prop} {t : Nat} {T : Tw} (hT : isT t) (hw : tw σ t T) (k w : Int32) {r : Nat} (hr : r < 3) (hk : K (pTime T k w r) σ) : ∀ (n i : Nat) (p s : Int32), i + n = 20 → p = pP T k w r i → s = fT k w (tIn T) (fun i => tTh T (r * 20 + i)) (fun i => tAg T (r * 20 + i)) i → Ex l (oC ad D cy) mX3_timeFor 9 [some (.ref t), some (.int k), some (.int w), some (.int (nI r)), some (.int p), some (.int s), some (.int (nI i))] [] σ (xQi K) := by
  intro n
  induction n with
  | zero =>
    intro i p s hi e_p e_s
    have hi : i = 20 := by omega
    subst hi
    refine x_iload (i := 6) dX3_timeFor_9 rfl ?_
    refine x_bipush (v := nI 20) dX3_timeFor_11 (by decide) ?_
    refine x_icgeN (tgt := 54) (by omega) (by omega) dX3_timeFor_13 rfl (fun h13 => ?_) (fun h13 => ?_)
    · skip
      refine x_iload (i := 5) dX3_timeFor_54 rfl ?_
      exact x_ireti dX3_timeFor_56 rfl (e_s ▸ hk)
    · exact absurd h13 (by omega)
  | succ n ih =>
    intro i p s hi e_p e_s
    refine x_iload (i := 6) dX3_timeFor_9 rfl ?_
    refine x_bipush (v := nI 20) dX3_timeFor_11 (by decide) ?_
    refine x_icgeN (tgt := 54) (by omega) (by omega) dX3_timeFor_13 rfl (fun h13 => ?_) (fun h13 => ?_)
    · exact absurd h13 (by omega)
    · skip
      refine x_aload_n (i := 0) dX3_timeFor_16 rfl rfl ?_
      refine x_iload_n (i := 1) dX3_timeFor_17 rfl rfl ?_
      refine x_iload_n (i := 2) dX3_timeFor_18 rfl rfl ?_
      refine x_iload_n (i := 3) dX3_timeFor_19 rfl rfl ?_
      refine x_iload (i := 6) dX3_timeFor_20 rfl ?_
      refine x_pi rfl rfl rfl dX3_timeFor_22 okX4_placeOf (Nat.le_of_ble_eq_true rfl) ⟨by decide, by decide⟩ (Nat.le_of_ble_eq_true rfl) (c_X4_placeOf _ _ ?_)
      refine x_iload (i := 4) dX3_timeFor_25 rfl ?_
      refine x_v4i dX3_timeFor_27 okX3_nextPace ml_X3_60 (sT0 hT) rfl (Nat.le_of_ble_eq_true rfl) ⟨by decide, by decide⟩ (Nat.le_of_ble_eq_true rfl) (c_X3_nextPace hT hw _ _ _ (by omega) ?_)
      refine y_istore (i := 4) (ls2 := [_, _, _, _, _, _, _]) dX3_timeFor_30 (by decide) rfl rfl ?_
      refine x_iload (i := 4) dX3_timeFor_32 rfl ?_
      refine x_ifle (tgt := 48) dX3_timeFor_34 rfl (fun h34 => ?_) (fun h34 => ?_)
      · skip
        refine y_iincN (i := 6) (ls2 := [_, _, _, _, _, _, _]) dX3_timeFor_48 rfl (by decide) rfl rfl ?_
        refine x_goto (tgt := 9) dX3_timeFor_51 rfl ?_
        exact ih (i + 1) _ _ (by omega) (by rw [e_p]; rfl) (by subst e_p e_s; first | exact (if_pos h34).symm | exact (if_neg h34).symm)
      · skip
        refine x_iload (i := 5) dX3_timeFor_37 rfl ?_
        refine x_sipush (v := nI 1227) dX3_timeFor_39 (by decide) ?_
        refine x_iload (i := 4) dX3_timeFor_42 rfl ?_
        refine x_idiv dX3_timeFor_44 (fun z => h34 (by rw [z]; decide)) ?_
        refine x_iadd dX3_timeFor_45 ?_
        refine y_istore (i := 5) (ls2 := [_, _, _, _, _, _, _]) dX3_timeFor_46 (by decide) rfl rfl ?_
        refine y_iincN (i := 6) (ls2 := [_, _, _, _, _, _, _]) dX3_timeFor_48 rfl (by decide) rfl rfl ?_
        refine x_goto (tgt := 9) dX3_timeFor_51 rfl ?_
        exact ih (i + 1) _ _ (by omega) (by rw [e_p]; rfl) (by subst e_p e_s; first | exact (if_pos h34).symm | exact (if_neg h34).symm)
set_option maxHeartbeats 4000000 in
set_option maxRecDepth 20000 in
theorem c_X3_timeFor {σ : xH} {K : Int32 → xH → Prop} {t : Nat} {T : Tw} (hT : isT t) (hw : tw σ t T) (k w : Int32) {r : Nat} (hr : r < 3) (hk : K (pTime T k w r) σ) : Evi l (oC ad D cy) mX3_timeFor [.ref t, .int k, .int w, .int (nI r)] σ K := by
  refine x_enter (ls := [some (.ref t), some (.int k), some (.int w), some (.int (nI r)), none, none, none]) rfl ?_
  refine x_iload_n (i := 2) dX3_timeFor_0 rfl rfl ?_
  refine y_istore (i := 4) (ls2 := [_, _, _, _, _, _, _]) dX3_timeFor_1 (by decide) rfl rfl ?_
  refine x_iconstN (n := 0) dX3_timeFor_3 ?_
  refine y_istore (i := 5) (ls2 := [_, _, _, _, _, _, _]) dX3_timeFor_4 (by decide) rfl rfl ?_
  refine x_iconstN (n := 0) dX3_timeFor_6 ?_
  refine y_istore (i := 6) (ls2 := [_, _, _, _, _, _, _]) dX3_timeFor_7 (by decide) rfl rfl ?_
  exact l_X3_timeFor hT hw k w hr hk 20 0 _ _ rfl rfl rfl
set_option maxHeartbeats 4000000 in
set_option maxRecDepth 20000 in
theorem l_X3_shakingBy {σ : xH} {K : Int32 → xH → Prop} {t : Nat} {T : Tw} (hT : isT t) (hw : tw σ t T) (k w : Int32) {r : Nat} (hr : r < 3) (hk : K (pShake T k w r) σ) : ∀ (n i : Nat) (p s : Int32), i + n = 20 → p = pP T k w r i → s = fS k w (tIn T) (fun i => tTh T (r * 20 + i)) (fun i => tAg T (r * 20 + i)) i → Ex l (oC ad D cy) mX3_shakingBy 9 [some (.ref t), some (.int k), some (.int w), some (.int (nI r)), some (.int p), some (.int s), some (.int (nI i))] [] σ (xQi K) := by
  intro n
  induction n with
  | zero =>
    intro i p s hi e_p e_s
    have hi : i = 20 := by omega
    subst hi
    refine x_iload (i := 6) dX3_shakingBy_9 rfl ?_
    refine x_bipush (v := nI 20) dX3_shakingBy_11 (by decide) ?_
    refine x_icgeN (tgt := 68) (by omega) (by omega) dX3_shakingBy_13 rfl (fun h13 => ?_) (fun h13 => ?_)
    · skip
      refine x_iload (i := 5) dX3_shakingBy_68 rfl ?_
      exact x_ireti dX3_shakingBy_70 rfl (e_s ▸ hk)
    · exact absurd h13 (by omega)
  | succ n ih =>
    intro i p s hi e_p e_s
    refine x_iload (i := 6) dX3_shakingBy_9 rfl ?_
    refine x_bipush (v := nI 20) dX3_shakingBy_11 (by decide) ?_
    refine x_icgeN (tgt := 68) (by omega) (by omega) dX3_shakingBy_13 rfl (fun h13 => ?_) (fun h13 => ?_)
    · exact absurd h13 (by omega)
    · skip
      refine x_aload_n (i := 0) dX3_shakingBy_16 rfl rfl ?_
      refine x_iload_n (i := 1) dX3_shakingBy_17 rfl rfl ?_
      refine x_iload_n (i := 2) dX3_shakingBy_18 rfl rfl ?_
      refine x_iload_n (i := 3) dX3_shakingBy_19 rfl rfl ?_
      refine x_iload (i := 6) dX3_shakingBy_20 rfl ?_
      refine x_pi rfl rfl rfl dX3_shakingBy_22 okX4_placeOf (Nat.le_of_ble_eq_true rfl) ⟨by decide, by decide⟩ (Nat.le_of_ble_eq_true rfl) (c_X4_placeOf _ _ ?_)
      refine x_iload (i := 4) dX3_shakingBy_25 rfl ?_
      refine x_v4i dX3_shakingBy_27 okX3_nextPace ml_X3_60 (sT0 hT) rfl (Nat.le_of_ble_eq_true rfl) ⟨by decide, by decide⟩ (Nat.le_of_ble_eq_true rfl) (c_X3_nextPace hT hw _ _ _ (by omega) ?_)
      refine y_istore (i := 4) (ls2 := [_, _, _, _, _, _, _]) dX3_shakingBy_30 (by decide) rfl rfl ?_
      refine x_aload_n (i := 0) dX3_shakingBy_32 rfl rfl ?_
      refine x_getr (i := 3) dX3_shakingBy_33 (sT0 hT) rfl rfl (by decide) fl_X3_21 inX3 ?_
      refine x_iload_n (i := 3) dX3_shakingBy_36 rfl rfl ?_
      refine x_iload (i := 6) dX3_shakingBy_37 rfl ?_
      refine x_pi rfl rfl rfl dX3_shakingBy_39 okX4_placeOf (Nat.le_of_ble_eq_true rfl) ⟨by decide, by decide⟩ (Nat.le_of_ble_eq_true rfl) (c_X4_placeOf _ _ ?_)
      refine x_ialdE dX3_shakingBy_42 (sT1 hT) (by omega) (by decide) (tw_th hw (by omega)) ?_
      refine x_iconstN (n := 1) dX3_shakingBy_43 ?_
      refine x_icne (tgt := 62) dX3_shakingBy_44 rfl (fun h44 => ?_) (fun h44 => ?_)
      · skip
        refine y_iincN (i := 6) (ls2 := [_, _, _, _, _, _, _]) dX3_shakingBy_62 rfl (by decide) rfl rfl ?_
        refine x_goto (tgt := 9) dX3_shakingBy_65 rfl ?_
        exact ih (i + 1) _ _ (by omega) (by rw [e_p]; rfl) (by subst e_p e_s; first | exact (if_pos h44).symm | exact (if_neg h44).symm)
      · skip
        refine x_iload (i := 5) dX3_shakingBy_47 rfl ?_
        refine x_iload_n (i := 1) dX3_shakingBy_49 rfl rfl ?_
        refine x_iload (i := 4) dX3_shakingBy_50 rfl ?_
        refine x_aload_n (i := 0) dX3_shakingBy_52 rfl rfl ?_
        refine x_getiE (i := 1) dX3_shakingBy_53 (sT0 hT) rfl rfl (by decide) fl_X3_15 inX3 (tw_in hw) ?_
        refine x_s3i dX3_shakingBy_56 okX0_shakes ml_X3_69 (Nat.le_of_ble_eq_true rfl) ⟨by decide, by decide⟩ (Nat.le_of_ble_eq_true rfl) (c_X0_shakes _ _ _ ?_)
        refine x_iadd dX3_shakingBy_59 ?_
        refine y_istore (i := 5) (ls2 := [_, _, _, _, _, _, _]) dX3_shakingBy_60 (by decide) rfl rfl ?_
        refine y_iincN (i := 6) (ls2 := [_, _, _, _, _, _, _]) dX3_shakingBy_62 rfl (by decide) rfl rfl ?_
        refine x_goto (tgt := 9) dX3_shakingBy_65 rfl ?_
        exact ih (i + 1) _ _ (by omega) (by rw [e_p]; rfl) (by subst e_p e_s; first | exact (if_pos h44).symm | exact (if_neg h44).symm)
set_option maxHeartbeats 4000000 in
set_option maxRecDepth 20000 in
theorem c_X3_shakingBy {σ : xH} {K : Int32 → xH → Prop} {t : Nat} {T : Tw} (hT : isT t) (hw : tw σ t T) (k w : Int32) {r : Nat} (hr : r < 3) (hk : K (pShake T k w r) σ) : Evi l (oC ad D cy) mX3_shakingBy [.ref t, .int k, .int w, .int (nI r)] σ K := by
  refine x_enter (ls := [some (.ref t), some (.int k), some (.int w), some (.int (nI r)), none, none, none]) rfl ?_
  refine x_iload_n (i := 2) dX3_shakingBy_0 rfl rfl ?_
  refine y_istore (i := 4) (ls2 := [_, _, _, _, _, _, _]) dX3_shakingBy_1 (by decide) rfl rfl ?_
  refine x_iconstN (n := 0) dX3_shakingBy_3 ?_
  refine y_istore (i := 5) (ls2 := [_, _, _, _, _, _, _]) dX3_shakingBy_4 (by decide) rfl rfl ?_
  refine x_iconstN (n := 0) dX3_shakingBy_6 ?_
  refine y_istore (i := 6) (ls2 := [_, _, _, _, _, _, _]) dX3_shakingBy_7 (by decide) rfl rfl ?_
  exact l_X3_shakingBy hT hw k w hr hk 20 0 _ _ rfl rfl rfl
def sSet (th : Nat → Int32) : Nat → Int32
  | 0 => nI 0
  | i + 1 => if th i = 0 then sSet th i else sSet th i ||| (nI 1 <<< (nI i &&& 31))
def sBump (th : Nat → Int32) : Nat → Int32
  | 0 => nI 0
  | i + 1 => if th i = nI 1 then sBump th i + nI 1 else sBump th i
def pSet (T : Tw) (r : Nat) : Int32 := sSet (fun i => tTh T (r * 20 + i)) 20
def pBump (T : Tw) (r : Nat) : Int32 := sBump (fun i => tTh T (r * 20 + i)) 20
def sSum (f : Nat → Int32) : Nat → Int32
  | 0 => nI 0
  | i + 1 => sSum f i + f i
def sWho (go : Nat → Nat) (r : Nat) : Nat → Int32
  | 0 => nI 0
  | d + 1 => if go d = r then sWho go r d ||| (nI 1 <<< (nI d &&& 31)) else sWho go r d
def sIn (f : Nat → Int32) (go : Nat → Nat) (r : Nat) : Nat → Int32
  | 0 => nI 0
  | d + 1 => if go d = r then sIn f go r d + f d else sIn f go r d
def sDiff (f g : Nat → Nat) : Nat → Int32
  | 0 => nI 0
  | d + 1 => if f d = g d then sDiff f g d else sDiff f g d + nI 1
def pShAll (T : Tw) : Int32 := sSum (fun d => pShake T (tKd T d) (tWs T d) (tGo T d)) (tN T)
def pTmAll (T : Tw) : Int32 := sSum (fun d => pTime T (tKd T d) (tWs T d) (tGo T d)) (tN T)
def pShIn (T : Tw) (r : Nat) : Int32 := sIn (fun d => pShake T (tKd T d) (tWs T d) r) (tGo T) r (tN T)
set_option maxHeartbeats 4000000 in
set_option maxRecDepth 20000 in
theorem l_X3_sets {σ : xH} {K : Int32 → xH → Prop} {t : Nat} {T : Tw} (hT : isT t) (hw : tw σ t T) {r : Nat} (hr : r < 3) (hk : K (pSet T r) σ) : ∀ (n i : Nat) (s : Int32), i + n = 20 → s = sSet (fun i => tTh T (r * 20 + i)) i → Ex l (oC ad D cy) mX3_stretchesWithThing 4 [some (.ref t), some (.int (nI r)), some (.int s), some (.int (nI i))] [] σ (xQi K) := by
  intro n
  induction n with
  | zero =>
    intro i s hi e_s
    have hi : i = 20 := by omega
    subst hi
    refine x_iload_n (i := 3) dX3_stretchesWithThing_4 rfl rfl ?_
    refine x_bipush (v := nI 20) dX3_stretchesWithThing_5 (by decide) ?_
    refine x_icgeN (tgt := 35) (by omega) (by omega) dX3_stretchesWithThing_7 rfl (fun h7 => ?_) (fun h7 => ?_)
    · skip
      refine x_iload_n (i := 2) dX3_stretchesWithThing_35 rfl rfl ?_
      exact x_ireti dX3_stretchesWithThing_36 rfl (e_s ▸ hk)
    · exact absurd h7 (by omega)
  | succ n ih =>
    intro i s hi e_s
    refine x_iload_n (i := 3) dX3_stretchesWithThing_4 rfl rfl ?_
    refine x_bipush (v := nI 20) dX3_stretchesWithThing_5 (by decide) ?_
    refine x_icgeN (tgt := 35) (by omega) (by omega) dX3_stretchesWithThing_7 rfl (fun h7 => ?_) (fun h7 => ?_)
    · exact absurd h7 (by omega)
    · skip
      refine x_aload_n (i := 0) dX3_stretchesWithThing_10 rfl rfl ?_
      refine x_getr (i := 3) dX3_stretchesWithThing_11 (sT0 hT) rfl rfl (by decide) fl_X3_21 inX3 ?_
      refine x_iload_n (i := 1) dX3_stretchesWithThing_14 rfl rfl ?_
      refine x_iload_n (i := 3) dX3_stretchesWithThing_15 rfl rfl ?_
      refine x_pi rfl rfl rfl dX3_stretchesWithThing_16 okX4_placeOf (Nat.le_of_ble_eq_true rfl) ⟨by decide, by decide⟩ (Nat.le_of_ble_eq_true rfl) (c_X4_placeOf _ _ ?_)
      refine x_ialdE dX3_stretchesWithThing_19 (sT1 hT) (by omega) (by decide) (tw_th hw (by omega)) ?_
      refine x_ifeq (tgt := 29) dX3_stretchesWithThing_20 rfl (fun h20 => ?_) (fun h20 => ?_)
      · skip
        refine y_iincN (i := 3) (ls2 := [_, _, _, _]) dX3_stretchesWithThing_29 rfl (by decide) rfl rfl ?_
        refine x_goto (tgt := 4) dX3_stretchesWithThing_32 rfl ?_
        exact ih (i + 1) _ (by omega) (by subst e_s; first | exact (if_pos h20).symm | exact (if_neg h20).symm)
      · skip
        refine x_iload_n (i := 2) dX3_stretchesWithThing_23 rfl rfl ?_
        refine x_iconstN (n := 1) dX3_stretchesWithThing_24 ?_
        refine x_iload_n (i := 3) dX3_stretchesWithThing_25 rfl rfl ?_
        refine x_ishl dX3_stretchesWithThing_26 ?_
        refine x_ior dX3_stretchesWithThing_27 ?_
        refine y_istore_n (i := 2) (ls2 := [_, _, _, _]) dX3_stretchesWithThing_28 rfl (by decide) rfl rfl ?_
        refine y_iincN (i := 3) (ls2 := [_, _, _, _]) dX3_stretchesWithThing_29 rfl (by decide) rfl rfl ?_
        refine x_goto (tgt := 4) dX3_stretchesWithThing_32 rfl ?_
        exact ih (i + 1) _ (by omega) (by subst e_s; first | exact (if_pos h20).symm | exact (if_neg h20).symm)
set_option maxHeartbeats 4000000 in
set_option maxRecDepth 20000 in
theorem c_X3_stretchesWithThing {σ : xH} {K : Int32 → xH → Prop} {t : Nat} {T : Tw} (hT : isT t) (hw : tw σ t T) {r : Nat} (hr : r < 3) (hk : K (pSet T r) σ) : Evi l (oC ad D cy) mX3_stretchesWithThing [.ref t, .int (nI r)] σ K := by
  refine x_enter (ls := [some (.ref t), some (.int (nI r)), none, none]) rfl ?_
  refine x_iconstN (n := 0) dX3_stretchesWithThing_0 ?_
  refine y_istore_n (i := 2) (ls2 := [_, _, _, _]) dX3_stretchesWithThing_1 rfl (by decide) rfl rfl ?_
  refine x_iconstN (n := 0) dX3_stretchesWithThing_2 ?_
  refine y_istore_n (i := 3) (ls2 := [_, _, _, _]) dX3_stretchesWithThing_3 rfl (by decide) rfl rfl ?_
  exact l_X3_sets hT hw hr hk 20 0 _ rfl rfl
set_option maxHeartbeats 4000000 in
set_option maxRecDepth 20000 in
theorem l_X3_bumpsIn {σ : xH} {K : Int32 → xH → Prop} {t : Nat} {T : Tw} (hT : isT t) (hw : tw σ t T) {r : Nat} (hr : r < 3) (hk : K (pBump T r) σ) : ∀ (n i : Nat) (s : Int32), i + n = 20 → s = sBump (fun i => tTh T (r * 20 + i)) i → Ex l (oC ad D cy) mX3_bumpsIn 4 [some (.ref t), some (.int (nI r)), some (.int s), some (.int (nI i))] [] σ (xQi K) := by
  intro n
  induction n with
  | zero =>
    intro i s hi e_s
    have hi : i = 20 := by omega
    subst hi
    refine x_iload_n (i := 3) dX3_bumpsIn_4 rfl rfl ?_
    refine x_bipush (v := nI 20) dX3_bumpsIn_5 (by decide) ?_
    refine x_icgeN (tgt := 33) (by omega) (by omega) dX3_bumpsIn_7 rfl (fun h7 => ?_) (fun h7 => ?_)
    · skip
      refine x_iload_n (i := 2) dX3_bumpsIn_33 rfl rfl ?_
      exact x_ireti dX3_bumpsIn_34 rfl (e_s ▸ hk)
    · exact absurd h7 (by omega)
  | succ n ih =>
    intro i s hi e_s
    refine x_iload_n (i := 3) dX3_bumpsIn_4 rfl rfl ?_
    refine x_bipush (v := nI 20) dX3_bumpsIn_5 (by decide) ?_
    refine x_icgeN (tgt := 33) (by omega) (by omega) dX3_bumpsIn_7 rfl (fun h7 => ?_) (fun h7 => ?_)
    · exact absurd h7 (by omega)
    · skip
      refine x_aload_n (i := 0) dX3_bumpsIn_10 rfl rfl ?_
      refine x_getr (i := 3) dX3_bumpsIn_11 (sT0 hT) rfl rfl (by decide) fl_X3_21 inX3 ?_
      refine x_iload_n (i := 1) dX3_bumpsIn_14 rfl rfl ?_
      refine x_iload_n (i := 3) dX3_bumpsIn_15 rfl rfl ?_
      refine x_pi rfl rfl rfl dX3_bumpsIn_16 okX4_placeOf (Nat.le_of_ble_eq_true rfl) ⟨by decide, by decide⟩ (Nat.le_of_ble_eq_true rfl) (c_X4_placeOf _ _ ?_)
      refine x_ialdE dX3_bumpsIn_19 (sT1 hT) (by omega) (by decide) (tw_th hw (by omega)) ?_
      refine x_iconstN (n := 1) dX3_bumpsIn_20 ?_
      refine x_icne (tgt := 27) dX3_bumpsIn_21 rfl (fun h21 => ?_) (fun h21 => ?_)
      · skip
        refine y_iincN (i := 3) (ls2 := [_, _, _, _]) dX3_bumpsIn_27 rfl (by decide) rfl rfl ?_
        refine x_goto (tgt := 4) dX3_bumpsIn_30 rfl ?_
        exact ih (i + 1) _ (by omega) (by subst e_s; first | exact (if_pos h21).symm | exact (if_neg h21).symm)
      · skip
        refine y_iinc (i := 2) (ls2 := [_, _, _, _]) dX3_bumpsIn_24 rfl rfl (by decide) rfl rfl ?_
        refine y_iincN (i := 3) (ls2 := [_, _, _, _]) dX3_bumpsIn_27 rfl (by decide) rfl rfl ?_
        refine x_goto (tgt := 4) dX3_bumpsIn_30 rfl ?_
        exact ih (i + 1) _ (by omega) (by subst e_s; first | exact (if_pos h21).symm | exact (if_neg h21).symm)
set_option maxHeartbeats 4000000 in
set_option maxRecDepth 20000 in
theorem c_X3_bumpsIn {σ : xH} {K : Int32 → xH → Prop} {t : Nat} {T : Tw} (hT : isT t) (hw : tw σ t T) {r : Nat} (hr : r < 3) (hk : K (pBump T r) σ) : Evi l (oC ad D cy) mX3_bumpsIn [.ref t, .int (nI r)] σ K := by
  refine x_enter (ls := [some (.ref t), some (.int (nI r)), none, none]) rfl ?_
  refine x_iconstN (n := 0) dX3_bumpsIn_0 ?_
  refine y_istore_n (i := 2) (ls2 := [_, _, _, _]) dX3_bumpsIn_1 rfl (by decide) rfl rfl ?_
  refine x_iconstN (n := 0) dX3_bumpsIn_2 ?_
  refine y_istore_n (i := 3) (ls2 := [_, _, _, _]) dX3_bumpsIn_3 rfl (by decide) rfl rfl ?_
  exact l_X3_bumpsIn hT hw hr hk 20 0 _ rfl rfl
set_option maxHeartbeats 4000000 in
set_option maxRecDepth 20000 in
theorem l_X3_bumpsInAll {σ : xH} {K : Int32 → xH → Prop} {t : Nat} {T : Tw} (hT : isT t) (hw : tw σ t T) (hk : K (sSum (pBump T) 3) σ) : ∀ (n i : Nat) (s : Int32), i + n = 3 → s = sSum (pBump T) i → Ex l (oC ad D cy) mX3_bumpsInAll 4 [some (.ref t), some (.int s), some (.int (nI i))] [] σ (xQi K) := by
  intro n
  induction n with
  | zero =>
    intro i s hi e_s
    have hi : i = 3 := by omega
    subst hi
    refine x_iload_n (i := 2) dX3_bumpsInAll_4 rfl rfl ?_
    refine x_iconstN (n := 3) dX3_bumpsInAll_5 ?_
    refine x_icgeN (tgt := 23) (by omega) (by omega) dX3_bumpsInAll_6 rfl (fun h6 => ?_) (fun h6 => ?_)
    · skip
      refine x_iload_n (i := 1) dX3_bumpsInAll_23 rfl rfl ?_
      exact x_ireti dX3_bumpsInAll_24 rfl (e_s ▸ hk)
    · exact absurd h6 (by omega)
  | succ n ih =>
    intro i s hi e_s
    refine x_iload_n (i := 2) dX3_bumpsInAll_4 rfl rfl ?_
    refine x_iconstN (n := 3) dX3_bumpsInAll_5 ?_
    refine x_icgeN (tgt := 23) (by omega) (by omega) dX3_bumpsInAll_6 rfl (fun h6 => ?_) (fun h6 => ?_)
    · exact absurd h6 (by omega)
    · skip
      refine x_iload_n (i := 1) dX3_bumpsInAll_9 rfl rfl ?_
      refine x_aload_n (i := 0) dX3_bumpsInAll_10 rfl rfl ?_
      refine x_iload_n (i := 2) dX3_bumpsInAll_11 rfl rfl ?_
      refine x_v1i dX3_bumpsInAll_12 okX3_bumpsIn ml_X3_47 (sT0 hT) rfl (Nat.le_of_ble_eq_true rfl) ⟨by decide, by decide⟩ (Nat.le_of_ble_eq_true rfl) (c_X3_bumpsIn hT hw (by omega) ?_)
      refine x_iadd dX3_bumpsInAll_15 ?_
      refine y_istore_n (i := 1) (ls2 := [_, _, _]) dX3_bumpsInAll_16 rfl (by decide) rfl rfl ?_
      refine y_iincN (i := 2) (ls2 := [_, _, _]) dX3_bumpsInAll_17 rfl (by decide) rfl rfl ?_
      refine x_goto (tgt := 4) dX3_bumpsInAll_20 rfl ?_
      exact ih (i + 1) _ (by omega) (by rw [e_s]; rfl)
set_option maxHeartbeats 4000000 in
set_option maxRecDepth 20000 in
theorem c_X3_bumpsInAll {σ : xH} {K : Int32 → xH → Prop} {t : Nat} {T : Tw} (hT : isT t) (hw : tw σ t T) (hk : K (sSum (pBump T) 3) σ) : Evi l (oC ad D cy) mX3_bumpsInAll [.ref t] σ K := by
  refine x_enter (ls := [some (.ref t), none, none]) rfl ?_
  refine x_iconstN (n := 0) dX3_bumpsInAll_0 ?_
  refine y_istore_n (i := 1) (ls2 := [_, _, _]) dX3_bumpsInAll_1 rfl (by decide) rfl rfl ?_
  refine x_iconstN (n := 0) dX3_bumpsInAll_2 ?_
  refine y_istore_n (i := 2) (ls2 := [_, _, _]) dX3_bumpsInAll_3 rfl (by decide) rfl rfl ?_
  exact l_X3_bumpsInAll hT hw hk 3 0 _ rfl rfl
set_option maxHeartbeats 4000000 in
set_option maxRecDepth 20000 in
theorem l_X3_whoGoesIn {σ : xH} {K : Int32 → xH → Prop} {t : Nat} {T : Tw} (hT : isT t) (hw : tw σ t T) {r : Nat} (hr : r < 3) (hk : K (sWho (tGo T) r (tN T)) σ) : ∀ (n i : Nat) (s : Int32), i + n = tN T → s = sWho (tGo T) r i → Ex l (oC ad D cy) mX3_whoGoesIn 4 [some (.ref t), some (.int (nI r)), some (.int s), some (.int (nI i))] [] σ (xQi K) := by
  intro n
  induction n with
  | zero =>
    intro i s hi e_s
    have hi : i = tN T := by omega
    subst hi
    have h8 := tw_8 hw
    refine x_iload_n (i := 3) dX3_whoGoesIn_4 rfl rfl ?_
    refine x_aload_n (i := 0) dX3_whoGoesIn_5 rfl rfl ?_
    refine x_getiE (i := 2) dX3_whoGoesIn_6 (sT0 hT) rfl rfl (by decide) fl_X3_18 inX3 (tw_n hw) ?_
    refine x_icgeN (tgt := 34) (by omega) (by omega) dX3_whoGoesIn_9 rfl (fun h9 => ?_) (fun h9 => ?_)
    · skip
      refine x_iload_n (i := 2) dX3_whoGoesIn_34 rfl rfl ?_
      exact x_ireti dX3_whoGoesIn_35 rfl (e_s ▸ hk)
    · exact absurd h9 (by omega)
  | succ n ih =>
    intro i s hi e_s
    have h8 := tw_8 hw
    refine x_iload_n (i := 3) dX3_whoGoesIn_4 rfl rfl ?_
    refine x_aload_n (i := 0) dX3_whoGoesIn_5 rfl rfl ?_
    refine x_getiE (i := 2) dX3_whoGoesIn_6 (sT0 hT) rfl rfl (by decide) fl_X3_18 inX3 (tw_n hw) ?_
    refine x_icgeN (tgt := 34) (by omega) (by omega) dX3_whoGoesIn_9 rfl (fun h9 => ?_) (fun h9 => ?_)
    · exact absurd h9 (by omega)
    · skip
      have h8 := tw_8 hw
      have hg := tw_g3 hw (d := i) (by omega)
      refine x_aload_n (i := 0) dX3_whoGoesIn_12 rfl rfl ?_
      refine x_getr (i := 7) dX3_whoGoesIn_13 (sT0 hT) rfl rfl (by decide) fl_X3_34 inX3 ?_
      refine x_iload_n (i := 3) dX3_whoGoesIn_16 rfl rfl ?_
      refine x_ialdE dX3_whoGoesIn_17 (sT5 hT) (by omega) (by decide) (tw_go hw (by omega)) ?_
      refine x_iload_n (i := 1) dX3_whoGoesIn_18 rfl rfl ?_
      refine x_icneN (tgt := 28) (by omega) (by omega) dX3_whoGoesIn_19 rfl (fun h19 => ?_) (fun h19 => ?_)
      · skip
        refine y_iincN (i := 3) (ls2 := [_, _, _, _]) dX3_whoGoesIn_28 rfl (by decide) rfl rfl ?_
        refine x_goto (tgt := 4) dX3_whoGoesIn_31 rfl ?_
        exact ih (i + 1) _ (by omega) (by subst e_s; first | exact (if_pos h19).symm | exact (if_neg h19).symm)
      · skip
        refine x_iload_n (i := 2) dX3_whoGoesIn_22 rfl rfl ?_
        refine x_iconstN (n := 1) dX3_whoGoesIn_23 ?_
        refine x_iload_n (i := 3) dX3_whoGoesIn_24 rfl rfl ?_
        refine x_ishl dX3_whoGoesIn_25 ?_
        refine x_ior dX3_whoGoesIn_26 ?_
        refine y_istore_n (i := 2) (ls2 := [_, _, _, _]) dX3_whoGoesIn_27 rfl (by decide) rfl rfl ?_
        refine y_iincN (i := 3) (ls2 := [_, _, _, _]) dX3_whoGoesIn_28 rfl (by decide) rfl rfl ?_
        refine x_goto (tgt := 4) dX3_whoGoesIn_31 rfl ?_
        exact ih (i + 1) _ (by omega) (by subst e_s; first | exact (if_pos h19).symm | exact (if_neg h19).symm)
set_option maxHeartbeats 4000000 in
set_option maxRecDepth 20000 in
theorem c_X3_whoGoesIn {σ : xH} {K : Int32 → xH → Prop} {t : Nat} {T : Tw} (hT : isT t) (hw : tw σ t T) {r : Nat} (hr : r < 3) (hk : K (sWho (tGo T) r (tN T)) σ) : Evi l (oC ad D cy) mX3_whoGoesIn [.ref t, .int (nI r)] σ K := by
  refine x_enter (ls := [some (.ref t), some (.int (nI r)), none, none]) rfl ?_
  refine x_iconstN (n := 0) dX3_whoGoesIn_0 ?_
  refine y_istore_n (i := 2) (ls2 := [_, _, _, _]) dX3_whoGoesIn_1 rfl (by decide) rfl rfl ?_
  refine x_iconstN (n := 0) dX3_whoGoesIn_2 ?_
  refine y_istore_n (i := 3) (ls2 := [_, _, _, _]) dX3_whoGoesIn_3 rfl (by decide) rfl rfl ?_
  exact l_X3_whoGoesIn hT hw hr hk (tN T) 0 _ (by omega) rfl
set_option maxHeartbeats 4000000 in
set_option maxRecDepth 20000 in
theorem l_X3_wishesOfAll {σ : xH} {K : Int32 → xH → Prop} {t : Nat} {T : Tw} (hT : isT t) (hw : tw σ t T) (hk : K (sSum (tWs T) (tN T)) σ) : ∀ (n i : Nat) (s : Int32), i + n = tN T → s = sSum (tWs T) i → Ex l (oC ad D cy) mX3_wishesOfAll 4 [some (.ref t), some (.int s), some (.int (nI i))] [] σ (xQi K) := by
  intro n
  induction n with
  | zero =>
    intro i s hi e_s
    have hi : i = tN T := by omega
    subst hi
    have h8 := tw_8 hw
    refine x_iload_n (i := 2) dX3_wishesOfAll_4 rfl rfl ?_
    refine x_aload_n (i := 0) dX3_wishesOfAll_5 rfl rfl ?_
    refine x_getiE (i := 2) dX3_wishesOfAll_6 (sT0 hT) rfl rfl (by decide) fl_X3_18 inX3 (tw_n hw) ?_
    refine x_icgeN (tgt := 27) (by omega) (by omega) dX3_wishesOfAll_9 rfl (fun h9 => ?_) (fun h9 => ?_)
    · skip
      refine x_iload_n (i := 1) dX3_wishesOfAll_27 rfl rfl ?_
      exact x_ireti dX3_wishesOfAll_28 rfl (e_s ▸ hk)
    · exact absurd h9 (by omega)
  | succ n ih =>
    intro i s hi e_s
    have h8 := tw_8 hw
    refine x_iload_n (i := 2) dX3_wishesOfAll_4 rfl rfl ?_
    refine x_aload_n (i := 0) dX3_wishesOfAll_5 rfl rfl ?_
    refine x_getiE (i := 2) dX3_wishesOfAll_6 (sT0 hT) rfl rfl (by decide) fl_X3_18 inX3 (tw_n hw) ?_
    refine x_icgeN (tgt := 27) (by omega) (by omega) dX3_wishesOfAll_9 rfl (fun h9 => ?_) (fun h9 => ?_)
    · exact absurd h9 (by omega)
    · skip
      refine x_iload_n (i := 1) dX3_wishesOfAll_12 rfl rfl ?_
      refine x_aload_n (i := 0) dX3_wishesOfAll_13 rfl rfl ?_
      refine x_getr (i := 6) dX3_wishesOfAll_14 (sT0 hT) rfl rfl (by decide) fl_X3_31 inX3 ?_
      refine x_iload_n (i := 2) dX3_wishesOfAll_17 rfl rfl ?_
      refine x_ialdE dX3_wishesOfAll_18 (sT4 hT) (by omega) (by decide) (tw_ws hw (by omega)) ?_
      refine x_iadd dX3_wishesOfAll_19 ?_
      refine y_istore_n (i := 1) (ls2 := [_, _, _]) dX3_wishesOfAll_20 rfl (by decide) rfl rfl ?_
      refine y_iincN (i := 2) (ls2 := [_, _, _]) dX3_wishesOfAll_21 rfl (by decide) rfl rfl ?_
      refine x_goto (tgt := 4) dX3_wishesOfAll_24 rfl ?_
      exact ih (i + 1) _ (by omega) (by rw [e_s]; rfl)
set_option maxHeartbeats 4000000 in
set_option maxRecDepth 20000 in
theorem c_X3_wishesOfAll {σ : xH} {K : Int32 → xH → Prop} {t : Nat} {T : Tw} (hT : isT t) (hw : tw σ t T) (hk : K (sSum (tWs T) (tN T)) σ) : Evi l (oC ad D cy) mX3_wishesOfAll [.ref t] σ K := by
  refine x_enter (ls := [some (.ref t), none, none]) rfl ?_
  refine x_iconstN (n := 0) dX3_wishesOfAll_0 ?_
  refine y_istore_n (i := 1) (ls2 := [_, _, _]) dX3_wishesOfAll_1 rfl (by decide) rfl rfl ?_
  refine x_iconstN (n := 0) dX3_wishesOfAll_2 ?_
  refine y_istore_n (i := 2) (ls2 := [_, _, _]) dX3_wishesOfAll_3 rfl (by decide) rfl rfl ?_
  exact l_X3_wishesOfAll hT hw hk (tN T) 0 _ (by omega) rfl
set_option maxHeartbeats 4000000 in
set_option maxRecDepth 20000 in
theorem l_X3_shakingIn {σ : xH} {K : Int32 → xH → Prop} {t : Nat} {T : Tw} (hT : isT t) (hw : tw σ t T) {r : Nat} (hr : r < 3) (hk : K (pShIn T r) σ) : ∀ (n i : Nat) (s : Int32), i + n = tN T → s = sIn (fun d => pShake T (tKd T d) (tWs T d) r) (tGo T) r i → Ex l (oC ad D cy) mX3_shakingIn 4 [some (.ref t), some (.int (nI r)), some (.int s), some (.int (nI i))] [] σ (xQi K) := by
  intro n
  induction n with
  | zero =>
    intro i s hi e_s
    have hi : i = tN T := by omega
    subst hi
    have h8 := tw_8 hw
    refine x_iload_n (i := 3) dX3_shakingIn_4 rfl rfl ?_
    refine x_aload_n (i := 0) dX3_shakingIn_5 rfl rfl ?_
    refine x_getiE (i := 2) dX3_shakingIn_6 (sT0 hT) rfl rfl (by decide) fl_X3_18 inX3 (tw_n hw) ?_
    refine x_icgeN (tgt := 48) (by omega) (by omega) dX3_shakingIn_9 rfl (fun h9 => ?_) (fun h9 => ?_)
    · skip
      refine x_iload_n (i := 2) dX3_shakingIn_48 rfl rfl ?_
      exact x_ireti dX3_shakingIn_49 rfl (e_s ▸ hk)
    · exact absurd h9 (by omega)
  | succ n ih =>
    intro i s hi e_s
    have h8 := tw_8 hw
    refine x_iload_n (i := 3) dX3_shakingIn_4 rfl rfl ?_
    refine x_aload_n (i := 0) dX3_shakingIn_5 rfl rfl ?_
    refine x_getiE (i := 2) dX3_shakingIn_6 (sT0 hT) rfl rfl (by decide) fl_X3_18 inX3 (tw_n hw) ?_
    refine x_icgeN (tgt := 48) (by omega) (by omega) dX3_shakingIn_9 rfl (fun h9 => ?_) (fun h9 => ?_)
    · exact absurd h9 (by omega)
    · skip
      have h8 := tw_8 hw
      have hg := tw_g3 hw (d := i) (by omega)
      refine x_aload_n (i := 0) dX3_shakingIn_12 rfl rfl ?_
      refine x_getr (i := 7) dX3_shakingIn_13 (sT0 hT) rfl rfl (by decide) fl_X3_34 inX3 ?_
      refine x_iload_n (i := 3) dX3_shakingIn_16 rfl rfl ?_
      refine x_ialdE dX3_shakingIn_17 (sT5 hT) (by omega) (by decide) (tw_go hw (by omega)) ?_
      refine x_iload_n (i := 1) dX3_shakingIn_18 rfl rfl ?_
      refine x_icneN (tgt := 42) (by omega) (by omega) dX3_shakingIn_19 rfl (fun h19 => ?_) (fun h19 => ?_)
      · skip
        refine y_iincN (i := 3) (ls2 := [_, _, _, _]) dX3_shakingIn_42 rfl (by decide) rfl rfl ?_
        refine x_goto (tgt := 4) dX3_shakingIn_45 rfl ?_
        exact ih (i + 1) _ (by omega) (by subst e_s; first | exact (if_pos h19).symm | exact (if_neg h19).symm)
      · skip
        refine x_iload_n (i := 2) dX3_shakingIn_22 rfl rfl ?_
        refine x_aload_n (i := 0) dX3_shakingIn_23 rfl rfl ?_
        refine x_aload_n (i := 0) dX3_shakingIn_24 rfl rfl ?_
        refine x_getr (i := 5) dX3_shakingIn_25 (sT0 hT) rfl rfl (by decide) fl_X3_28 inX3 ?_
        refine x_iload_n (i := 3) dX3_shakingIn_28 rfl rfl ?_
        refine x_ialdE dX3_shakingIn_29 (sT3 hT) (by omega) (by decide) (tw_kd hw (by omega)) ?_
        refine x_aload_n (i := 0) dX3_shakingIn_30 rfl rfl ?_
        refine x_getr (i := 6) dX3_shakingIn_31 (sT0 hT) rfl rfl (by decide) fl_X3_31 inX3 ?_
        refine x_iload_n (i := 3) dX3_shakingIn_34 rfl rfl ?_
        refine x_ialdE dX3_shakingIn_35 (sT4 hT) (by omega) (by decide) (tw_ws hw (by omega)) ?_
        refine x_iload_n (i := 1) dX3_shakingIn_36 rfl rfl ?_
        refine x_v3i dX3_shakingIn_37 okX3_shakingBy ml_X3_85 (sT0 hT) rfl (Nat.le_of_ble_eq_true rfl) ⟨by decide, by decide⟩ (Nat.le_of_ble_eq_true rfl) (c_X3_shakingBy hT hw _ _ (by omega) ?_)
        refine x_iadd dX3_shakingIn_40 ?_
        refine y_istore_n (i := 2) (ls2 := [_, _, _, _]) dX3_shakingIn_41 rfl (by decide) rfl rfl ?_
        refine y_iincN (i := 3) (ls2 := [_, _, _, _]) dX3_shakingIn_42 rfl (by decide) rfl rfl ?_
        refine x_goto (tgt := 4) dX3_shakingIn_45 rfl ?_
        exact ih (i + 1) _ (by omega) (by subst e_s; first | exact (if_pos h19).symm | exact (if_neg h19).symm)
set_option maxHeartbeats 4000000 in
set_option maxRecDepth 20000 in
theorem c_X3_shakingIn {σ : xH} {K : Int32 → xH → Prop} {t : Nat} {T : Tw} (hT : isT t) (hw : tw σ t T) {r : Nat} (hr : r < 3) (hk : K (pShIn T r) σ) : Evi l (oC ad D cy) mX3_shakingIn [.ref t, .int (nI r)] σ K := by
  refine x_enter (ls := [some (.ref t), some (.int (nI r)), none, none]) rfl ?_
  refine x_iconstN (n := 0) dX3_shakingIn_0 ?_
  refine y_istore_n (i := 2) (ls2 := [_, _, _, _]) dX3_shakingIn_1 rfl (by decide) rfl rfl ?_
  refine x_iconstN (n := 0) dX3_shakingIn_2 ?_
  refine y_istore_n (i := 3) (ls2 := [_, _, _, _]) dX3_shakingIn_3 rfl (by decide) rfl rfl ?_
  exact l_X3_shakingIn hT hw hr hk (tN T) 0 _ (by omega) rfl
set_option maxHeartbeats 4000000 in
set_option maxRecDepth 20000 in
theorem l_X3_shakingOfAll {σ : xH} {K : Int32 → xH → Prop} {t : Nat} {T : Tw} (hT : isT t) (hw : tw σ t T) (hk : K (pShAll T) σ) : ∀ (n i : Nat) (s : Int32), i + n = tN T → s = sSum (fun d => pShake T (tKd T d) (tWs T d) (tGo T d)) i → Ex l (oC ad D cy) mX3_shakingOfAll 4 [some (.ref t), some (.int s), some (.int (nI i))] [] σ (xQi K) := by
  intro n
  induction n with
  | zero =>
    intro i s hi e_s
    have hi : i = tN T := by omega
    subst hi
    have h8 := tw_8 hw
    refine x_iload_n (i := 2) dX3_shakingOfAll_4 rfl rfl ?_
    refine x_aload_n (i := 0) dX3_shakingOfAll_5 rfl rfl ?_
    refine x_getiE (i := 2) dX3_shakingOfAll_6 (sT0 hT) rfl rfl (by decide) fl_X3_18 inX3 (tw_n hw) ?_
    refine x_icgeN (tgt := 43) (by omega) (by omega) dX3_shakingOfAll_9 rfl (fun h9 => ?_) (fun h9 => ?_)
    · skip
      refine x_iload_n (i := 1) dX3_shakingOfAll_43 rfl rfl ?_
      exact x_ireti dX3_shakingOfAll_44 rfl (e_s ▸ hk)
    · exact absurd h9 (by omega)
  | succ n ih =>
    intro i s hi e_s
    have h8 := tw_8 hw
    refine x_iload_n (i := 2) dX3_shakingOfAll_4 rfl rfl ?_
    refine x_aload_n (i := 0) dX3_shakingOfAll_5 rfl rfl ?_
    refine x_getiE (i := 2) dX3_shakingOfAll_6 (sT0 hT) rfl rfl (by decide) fl_X3_18 inX3 (tw_n hw) ?_
    refine x_icgeN (tgt := 43) (by omega) (by omega) dX3_shakingOfAll_9 rfl (fun h9 => ?_) (fun h9 => ?_)
    · exact absurd h9 (by omega)
    · skip
      have h8 := tw_8 hw
      have hg := tw_g3 hw (d := i) (by omega)
      refine x_iload_n (i := 1) dX3_shakingOfAll_12 rfl rfl ?_
      refine x_aload_n (i := 0) dX3_shakingOfAll_13 rfl rfl ?_
      refine x_aload_n (i := 0) dX3_shakingOfAll_14 rfl rfl ?_
      refine x_getr (i := 5) dX3_shakingOfAll_15 (sT0 hT) rfl rfl (by decide) fl_X3_28 inX3 ?_
      refine x_iload_n (i := 2) dX3_shakingOfAll_18 rfl rfl ?_
      refine x_ialdE dX3_shakingOfAll_19 (sT3 hT) (by omega) (by decide) (tw_kd hw (by omega)) ?_
      refine x_aload_n (i := 0) dX3_shakingOfAll_20 rfl rfl ?_
      refine x_getr (i := 6) dX3_shakingOfAll_21 (sT0 hT) rfl rfl (by decide) fl_X3_31 inX3 ?_
      refine x_iload_n (i := 2) dX3_shakingOfAll_24 rfl rfl ?_
      refine x_ialdE dX3_shakingOfAll_25 (sT4 hT) (by omega) (by decide) (tw_ws hw (by omega)) ?_
      refine x_aload_n (i := 0) dX3_shakingOfAll_26 rfl rfl ?_
      refine x_getr (i := 7) dX3_shakingOfAll_27 (sT0 hT) rfl rfl (by decide) fl_X3_34 inX3 ?_
      refine x_iload_n (i := 2) dX3_shakingOfAll_30 rfl rfl ?_
      refine x_ialdE dX3_shakingOfAll_31 (sT5 hT) (by omega) (by decide) (tw_go hw (by omega)) ?_
      refine x_v3i dX3_shakingOfAll_32 okX3_shakingBy ml_X3_85 (sT0 hT) rfl (Nat.le_of_ble_eq_true rfl) ⟨by decide, by decide⟩ (Nat.le_of_ble_eq_true rfl) (c_X3_shakingBy hT hw _ _ (by omega) ?_)
      refine x_iadd dX3_shakingOfAll_35 ?_
      refine y_istore_n (i := 1) (ls2 := [_, _, _]) dX3_shakingOfAll_36 rfl (by decide) rfl rfl ?_
      refine y_iincN (i := 2) (ls2 := [_, _, _]) dX3_shakingOfAll_37 rfl (by decide) rfl rfl ?_
      refine x_goto (tgt := 4) dX3_shakingOfAll_40 rfl ?_
      exact ih (i + 1) _ (by omega) (by rw [e_s]; rfl)
set_option maxHeartbeats 4000000 in
set_option maxRecDepth 20000 in
theorem c_X3_shakingOfAll {σ : xH} {K : Int32 → xH → Prop} {t : Nat} {T : Tw} (hT : isT t) (hw : tw σ t T) (hk : K (pShAll T) σ) : Evi l (oC ad D cy) mX3_shakingOfAll [.ref t] σ K := by
  refine x_enter (ls := [some (.ref t), none, none]) rfl ?_
  refine x_iconstN (n := 0) dX3_shakingOfAll_0 ?_
  refine y_istore_n (i := 1) (ls2 := [_, _, _]) dX3_shakingOfAll_1 rfl (by decide) rfl rfl ?_
  refine x_iconstN (n := 0) dX3_shakingOfAll_2 ?_
  refine y_istore_n (i := 2) (ls2 := [_, _, _]) dX3_shakingOfAll_3 rfl (by decide) rfl rfl ?_
  exact l_X3_shakingOfAll hT hw hk (tN T) 0 _ (by omega) rfl
set_option maxHeartbeats 4000000 in
set_option maxRecDepth 20000 in
theorem l_X3_timeOfAll {σ : xH} {K : Int32 → xH → Prop} {t : Nat} {T : Tw} (hT : isT t) (hw : tw σ t T) (hk : K (pTmAll T) σ) : ∀ (n i : Nat) (s : Int32), i + n = tN T → s = sSum (fun d => pTime T (tKd T d) (tWs T d) (tGo T d)) i → Ex l (oC ad D cy) mX3_timeOfAll 4 [some (.ref t), some (.int s), some (.int (nI i))] [] σ (xQi K) := by
  intro n
  induction n with
  | zero =>
    intro i s hi e_s
    have hi : i = tN T := by omega
    subst hi
    have h8 := tw_8 hw
    refine x_iload_n (i := 2) dX3_timeOfAll_4 rfl rfl ?_
    refine x_aload_n (i := 0) dX3_timeOfAll_5 rfl rfl ?_
    refine x_getiE (i := 2) dX3_timeOfAll_6 (sT0 hT) rfl rfl (by decide) fl_X3_18 inX3 (tw_n hw) ?_
    refine x_icgeN (tgt := 43) (by omega) (by omega) dX3_timeOfAll_9 rfl (fun h9 => ?_) (fun h9 => ?_)
    · skip
      refine x_iload_n (i := 1) dX3_timeOfAll_43 rfl rfl ?_
      exact x_ireti dX3_timeOfAll_44 rfl (e_s ▸ hk)
    · exact absurd h9 (by omega)
  | succ n ih =>
    intro i s hi e_s
    have h8 := tw_8 hw
    refine x_iload_n (i := 2) dX3_timeOfAll_4 rfl rfl ?_
    refine x_aload_n (i := 0) dX3_timeOfAll_5 rfl rfl ?_
    refine x_getiE (i := 2) dX3_timeOfAll_6 (sT0 hT) rfl rfl (by decide) fl_X3_18 inX3 (tw_n hw) ?_
    refine x_icgeN (tgt := 43) (by omega) (by omega) dX3_timeOfAll_9 rfl (fun h9 => ?_) (fun h9 => ?_)
    · exact absurd h9 (by omega)
    · skip
      have h8 := tw_8 hw
      have hg := tw_g3 hw (d := i) (by omega)
      refine x_iload_n (i := 1) dX3_timeOfAll_12 rfl rfl ?_
      refine x_aload_n (i := 0) dX3_timeOfAll_13 rfl rfl ?_
      refine x_aload_n (i := 0) dX3_timeOfAll_14 rfl rfl ?_
      refine x_getr (i := 5) dX3_timeOfAll_15 (sT0 hT) rfl rfl (by decide) fl_X3_28 inX3 ?_
      refine x_iload_n (i := 2) dX3_timeOfAll_18 rfl rfl ?_
      refine x_ialdE dX3_timeOfAll_19 (sT3 hT) (by omega) (by decide) (tw_kd hw (by omega)) ?_
      refine x_aload_n (i := 0) dX3_timeOfAll_20 rfl rfl ?_
      refine x_getr (i := 6) dX3_timeOfAll_21 (sT0 hT) rfl rfl (by decide) fl_X3_31 inX3 ?_
      refine x_iload_n (i := 2) dX3_timeOfAll_24 rfl rfl ?_
      refine x_ialdE dX3_timeOfAll_25 (sT4 hT) (by omega) (by decide) (tw_ws hw (by omega)) ?_
      refine x_aload_n (i := 0) dX3_timeOfAll_26 rfl rfl ?_
      refine x_getr (i := 7) dX3_timeOfAll_27 (sT0 hT) rfl rfl (by decide) fl_X3_34 inX3 ?_
      refine x_iload_n (i := 2) dX3_timeOfAll_30 rfl rfl ?_
      refine x_ialdE dX3_timeOfAll_31 (sT5 hT) (by omega) (by decide) (tw_go hw (by omega)) ?_
      refine x_v3i dX3_timeOfAll_32 okX3_timeFor ml_X3_88 (sT0 hT) rfl (Nat.le_of_ble_eq_true rfl) ⟨by decide, by decide⟩ (Nat.le_of_ble_eq_true rfl) (c_X3_timeFor hT hw _ _ (by omega) ?_)
      refine x_iadd dX3_timeOfAll_35 ?_
      refine y_istore_n (i := 1) (ls2 := [_, _, _]) dX3_timeOfAll_36 rfl (by decide) rfl rfl ?_
      refine y_iincN (i := 2) (ls2 := [_, _, _]) dX3_timeOfAll_37 rfl (by decide) rfl rfl ?_
      refine x_goto (tgt := 4) dX3_timeOfAll_40 rfl ?_
      exact ih (i + 1) _ (by omega) (by rw [e_s]; rfl)
set_option maxHeartbeats 4000000 in
set_option maxRecDepth 20000 in
theorem c_X3_timeOfAll {σ : xH} {K : Int32 → xH → Prop} {t : Nat} {T : Tw} (hT : isT t) (hw : tw σ t T) (hk : K (pTmAll T) σ) : Evi l (oC ad D cy) mX3_timeOfAll [.ref t] σ K := by
  refine x_enter (ls := [some (.ref t), none, none]) rfl ?_
  refine x_iconstN (n := 0) dX3_timeOfAll_0 ?_
  refine y_istore_n (i := 1) (ls2 := [_, _, _]) dX3_timeOfAll_1 rfl (by decide) rfl rfl ?_
  refine x_iconstN (n := 0) dX3_timeOfAll_2 ?_
  refine y_istore_n (i := 2) (ls2 := [_, _, _]) dX3_timeOfAll_3 rfl (by decide) rfl rfl ?_
  exact l_X3_timeOfAll hT hw hk (tN T) 0 _ (by omega) rfl
set_option maxHeartbeats 4000000 in
set_option maxRecDepth 20000 in
theorem l_X3_timeInAll {σ : xH} {K : Int32 → xH → Prop} {t : Nat} {T : Tw} (hT : isT t) (hw : tw σ t T) {d : Nat} (hd : d < tN T) (hk : K (sSum (fun r => pTime T (tKd T d) (tWs T d) r) 3) σ) : ∀ (n i : Nat) (s : Int32), i + n = 3 → s = sSum (fun r => pTime T (tKd T d) (tWs T d) r) i → Ex l (oC ad D cy) mX3_timeInAllStreets 4 [some (.ref t), some (.int (nI d)), some (.int s), some (.int (nI i))] [] σ (xQi K) := by
  intro n
  induction n with
  | zero =>
    intro i s hi e_s
    have hi : i = 3 := by omega
    subst hi
    have h8 := tw_8 hw
    refine x_iload_n (i := 3) dX3_timeInAllStreets_4 rfl rfl ?_
    refine x_iconstN (n := 3) dX3_timeInAllStreets_5 ?_
    refine x_icgeN (tgt := 35) (by omega) (by omega) dX3_timeInAllStreets_6 rfl (fun h6 => ?_) (fun h6 => ?_)
    · skip
      refine x_iload_n (i := 2) dX3_timeInAllStreets_35 rfl rfl ?_
      exact x_ireti dX3_timeInAllStreets_36 rfl (e_s ▸ hk)
    · exact absurd h6 (by omega)
  | succ n ih =>
    intro i s hi e_s
    have h8 := tw_8 hw
    refine x_iload_n (i := 3) dX3_timeInAllStreets_4 rfl rfl ?_
    refine x_iconstN (n := 3) dX3_timeInAllStreets_5 ?_
    refine x_icgeN (tgt := 35) (by omega) (by omega) dX3_timeInAllStreets_6 rfl (fun h6 => ?_) (fun h6 => ?_)
    · exact absurd h6 (by omega)
    · skip
      refine x_iload_n (i := 2) dX3_timeInAllStreets_9 rfl rfl ?_
      refine x_aload_n (i := 0) dX3_timeInAllStreets_10 rfl rfl ?_
      refine x_aload_n (i := 0) dX3_timeInAllStreets_11 rfl rfl ?_
      refine x_getr (i := 5) dX3_timeInAllStreets_12 (sT0 hT) rfl rfl (by decide) fl_X3_28 inX3 ?_
      refine x_iload_n (i := 1) dX3_timeInAllStreets_15 rfl rfl ?_
      refine x_ialdE dX3_timeInAllStreets_16 (sT3 hT) (by omega) (by decide) (tw_kd hw (by omega)) ?_
      refine x_aload_n (i := 0) dX3_timeInAllStreets_17 rfl rfl ?_
      refine x_getr (i := 6) dX3_timeInAllStreets_18 (sT0 hT) rfl rfl (by decide) fl_X3_31 inX3 ?_
      refine x_iload_n (i := 1) dX3_timeInAllStreets_21 rfl rfl ?_
      refine x_ialdE dX3_timeInAllStreets_22 (sT4 hT) (by omega) (by decide) (tw_ws hw (by omega)) ?_
      refine x_iload_n (i := 3) dX3_timeInAllStreets_23 rfl rfl ?_
      refine x_v3i dX3_timeInAllStreets_24 okX3_timeFor ml_X3_88 (sT0 hT) rfl (Nat.le_of_ble_eq_true rfl) ⟨by decide, by decide⟩ (Nat.le_of_ble_eq_true rfl) (c_X3_timeFor hT hw _ _ (by omega) ?_)
      refine x_iadd dX3_timeInAllStreets_27 ?_
      refine y_istore_n (i := 2) (ls2 := [_, _, _, _]) dX3_timeInAllStreets_28 rfl (by decide) rfl rfl ?_
      refine y_iincN (i := 3) (ls2 := [_, _, _, _]) dX3_timeInAllStreets_29 rfl (by decide) rfl rfl ?_
      refine x_goto (tgt := 4) dX3_timeInAllStreets_32 rfl ?_
      exact ih (i + 1) _ (by omega) (by rw [e_s]; rfl)
set_option maxHeartbeats 4000000 in
set_option maxRecDepth 20000 in
theorem c_X3_timeInAllStreets {σ : xH} {K : Int32 → xH → Prop} {t : Nat} {T : Tw} (hT : isT t) (hw : tw σ t T) {d : Nat} (hd : d < tN T) (hk : K (sSum (fun r => pTime T (tKd T d) (tWs T d) r) 3) σ) : Evi l (oC ad D cy) mX3_timeInAllStreets [.ref t, .int (nI d)] σ K := by
  refine x_enter (ls := [some (.ref t), some (.int (nI d)), none, none]) rfl ?_
  refine x_iconstN (n := 0) dX3_timeInAllStreets_0 ?_
  refine y_istore_n (i := 2) (ls2 := [_, _, _, _]) dX3_timeInAllStreets_1 rfl (by decide) rfl rfl ?_
  refine x_iconstN (n := 0) dX3_timeInAllStreets_2 ?_
  refine y_istore_n (i := 3) (ls2 := [_, _, _, _]) dX3_timeInAllStreets_3 rfl (by decide) rfl rfl ?_
  exact l_X3_timeInAll hT hw hd hk 3 0 _ rfl rfl
set_option maxHeartbeats 4000000 in
set_option maxRecDepth 20000 in
theorem l_X3_howMany {σ : xH} {K : Int32 → xH → Prop} {t : Nat} {T : Tw} (hT : isT t) (hw : tw σ t T) {u : Nat} {U : Tw} (hU : isT u) (hu : tw σ u U) (hn : tN U = tN T) (hk : K (sDiff (tGo T) (tGo U) (tN T)) σ) : ∀ (n i : Nat) (s : Int32), i + n = tN T → s = sDiff (tGo T) (tGo U) i → Ex l (oC ad D cy) mX3_howManyGoElsewhere 4 [some (.ref t), some (.ref u), some (.int s), some (.int (nI i))] [] σ (xQi K) := by
  intro n
  induction n with
  | zero =>
    intro i s hi e_s
    have hi : i = tN T := by omega
    subst hi
    have h8 := tw_8 hw
    refine x_iload_n (i := 3) dX3_howManyGoElsewhere_4 rfl rfl ?_
    refine x_aload_n (i := 0) dX3_howManyGoElsewhere_5 rfl rfl ?_
    refine x_getiE (i := 2) dX3_howManyGoElsewhere_6 (sT0 hT) rfl rfl (by decide) fl_X3_18 inX3 (tw_n hw) ?_
    refine x_icgeN (tgt := 36) (by omega) (by omega) dX3_howManyGoElsewhere_9 rfl (fun h9 => ?_) (fun h9 => ?_)
    · skip
      refine x_iload_n (i := 2) dX3_howManyGoElsewhere_36 rfl rfl ?_
      exact x_ireti dX3_howManyGoElsewhere_37 rfl (e_s ▸ hk)
    · exact absurd h9 (by omega)
  | succ n ih =>
    intro i s hi e_s
    have h8 := tw_8 hw
    refine x_iload_n (i := 3) dX3_howManyGoElsewhere_4 rfl rfl ?_
    refine x_aload_n (i := 0) dX3_howManyGoElsewhere_5 rfl rfl ?_
    refine x_getiE (i := 2) dX3_howManyGoElsewhere_6 (sT0 hT) rfl rfl (by decide) fl_X3_18 inX3 (tw_n hw) ?_
    refine x_icgeN (tgt := 36) (by omega) (by omega) dX3_howManyGoElsewhere_9 rfl (fun h9 => ?_) (fun h9 => ?_)
    · exact absurd h9 (by omega)
    · skip
      have h8 := tw_8 hw
      have hg := tw_g3 hw (d := i) (by omega)
      have hg2 := tw_g3 hu (d := i) (by omega)
      refine x_aload_n (i := 0) dX3_howManyGoElsewhere_12 rfl rfl ?_
      refine x_getr (i := 7) dX3_howManyGoElsewhere_13 (sT0 hT) rfl rfl (by decide) fl_X3_34 inX3 ?_
      refine x_iload_n (i := 3) dX3_howManyGoElsewhere_16 rfl rfl ?_
      refine x_ialdE dX3_howManyGoElsewhere_17 (sT5 hT) (by omega) (by decide) (tw_go hw (by omega)) ?_
      refine x_aload_n (i := 1) dX3_howManyGoElsewhere_18 rfl rfl ?_
      refine x_getr (i := 7) dX3_howManyGoElsewhere_19 (sT0 hU) rfl rfl (by decide) fl_X3_34 inX3 ?_
      refine x_iload_n (i := 3) dX3_howManyGoElsewhere_22 rfl rfl ?_
      refine x_ialdE dX3_howManyGoElsewhere_23 (sT5 hU) (by omega) (by decide) (tw_go hu (by omega)) ?_
      refine x_iceqN (tgt := 30) (by omega) (by omega) dX3_howManyGoElsewhere_24 rfl (fun h24 => ?_) (fun h24 => ?_)
      · skip
        refine y_iincN (i := 3) (ls2 := [_, _, _, _]) dX3_howManyGoElsewhere_30 rfl (by decide) rfl rfl ?_
        refine x_goto (tgt := 4) dX3_howManyGoElsewhere_33 rfl ?_
        exact ih (i + 1) _ (by omega) (by subst e_s; first | exact (if_pos h24).symm | exact (if_neg h24).symm)
      · skip
        refine y_iinc (i := 2) (ls2 := [_, _, _, _]) dX3_howManyGoElsewhere_27 rfl rfl (by decide) rfl rfl ?_
        refine y_iincN (i := 3) (ls2 := [_, _, _, _]) dX3_howManyGoElsewhere_30 rfl (by decide) rfl rfl ?_
        refine x_goto (tgt := 4) dX3_howManyGoElsewhere_33 rfl ?_
        exact ih (i + 1) _ (by omega) (by subst e_s; first | exact (if_pos h24).symm | exact (if_neg h24).symm)
set_option maxHeartbeats 4000000 in
set_option maxRecDepth 20000 in
theorem c_X3_howManyGoElsewhere {σ : xH} {K : Int32 → xH → Prop} {t : Nat} {T : Tw} (hT : isT t) (hw : tw σ t T) {u : Nat} {U : Tw} (hU : isT u) (hu : tw σ u U) (hn : tN U = tN T) (hk : K (sDiff (tGo T) (tGo U) (tN T)) σ) : Evi l (oC ad D cy) mX3_howManyGoElsewhere [.ref t, .ref u] σ K := by
  refine x_enter (ls := [some (.ref t), some (.ref u), none, none]) rfl ?_
  refine x_iconstN (n := 0) dX3_howManyGoElsewhere_0 ?_
  refine y_istore_n (i := 2) (ls2 := [_, _, _, _]) dX3_howManyGoElsewhere_1 rfl (by decide) rfl rfl ?_
  refine x_iconstN (n := 0) dX3_howManyGoElsewhere_2 ?_
  refine y_istore_n (i := 3) (ls2 := [_, _, _, _]) dX3_howManyGoElsewhere_3 rfl (by decide) rfl rfl ?_
  exact l_X3_howMany hT hw hU hu hn hk (tN T) 0 _ (by omega) rfl
end
