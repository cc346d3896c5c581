theorem x_back2 {p : Program} {l : Launch} {e : Env} {R : Room} {s : State} {m : MethodId} {args : Array Value} {below : List Frame} {meth : Method} {c : Code} {H H0 : Heap} {locs : List Loc} {kc ks : Nat} {Qf : State → Prop} {Ω : xW} {A0 A1 : Nat → Prop} {Q2 : Option Value → xH → Prop} {a : Array Value} {free : Addr → Prop} {pc : Nat} {ls' : Array Slot} {st0 rest : List Value}
    (hr : va_Run p l e R s m args below meth c H locs kc ks 0 0 (F0 m pc ls' st0) rest (xQc Ω A1 Q2 a) free) (hS : va_S A0 H0 H locs) (hA : ∀ q, A1 q → A0 q) (hf : ∀ q, free q → A0 q)
    (kk : ∀ (r : Option Value) (τ : xH) (H1 : Heap) (locs1 : List Loc), Q2 r τ → va_P (xD Ω) vwCl (xw Ω τ) H1 → va_D A1 (xw Ω τ) → va_S A0 H0 H1 locs1 → (∀ q : Nat, q < H.size → ¬ A1 q → H1[q]? = H[q]?) → W p l e R s m args below meth c H1 locs1 kc ks Qf (F0 m (pc + 3) ls' ((r.map (xv (xad Ω))).toList ++ rest))) : W p l e R s m args below meth c H locs kc ks Qf (F0 m pc ls' st0) := by
  intro T hT X
  obtain ⟨v, st₀, t, T', L, h0, X', hL, e1, e2, ⟨⟨r, τ, hv, hp, hb, hk1, hd1⟩, hz, hk⟩, st⟩ := hr T hT X
  cases hv
  rw [h0] at hz hk
  obtain ⟨t2, a1, b1⟩ := kk r τ T'.heap (locs ++ L) hp (by rw [e1]; exact hb) hd1
    ⟨Nat.le_trans hS.1 (by rw [e1]; exact hz), fun q h1 h2 => by rw [e1, hk q (Nat.lt_of_lt_of_le h1 hS.1) (fun z => h2 (hA q z))]; exact hS.2.1 q h1 h2, fun q hq => by
      rcases List.mem_append.mp hq with h | h
      · exact hS.2.2 q h
      · exact hf _ (hL q h)⟩ (fun q h1 h2 => by rw [e1]; exact hk q h1 h2) T' rfl X'
  exact ⟨t2, st t2 a1, b1⟩
abbrev lA (s : State) : Nat → Prop := fun q => s.heap.size ≤ q
/-- what stands fast in the law -/
def lB (p : Program) (s : State) (m : MethodId) (meth : Method) (c : Code) (b L : Nat) (xs : Nat → Int32) (ac am : Nat → Nat) (D : va_G) (yc ym : Nat → ClassId) (kc ks : Nat) : Prop :=
  lw_At p s m meth c b L xs ∧ va_K D vwCl (xtys (oC ac D yc)) s ∧ va_K D vwCl (xtys (oM am D ym)) s ∧ xE (oC ac D yc) (lA s) s s.heap ∧ xE (oM am D ym) (lA s) s s.heap ∧ (∀ j k, j < 31 → k < 14 → ac j ≠ am k) ∧ L ≤ 3072 ∧ kc ≤ 600000 ∧ ks ≤ 7302250
/-- the law from a place on: the class holds σ, the model τ, the loop is at i -/
def Lw (p : Program) (l : Launch) (e : Env) (s : State) (m : MethodId) (below : List Frame) (meth : Method) (c : Code) (b : Nat) (ac am : Nat → Nat) (D : va_G) (yc ym : Nat → ClassId) (kc ks : Nat) (pc i : Nat) (st : List Value) (σ τ : xH) : Prop :=
  ∀ (H : Heap) (locs : List Loc) (ls : Array Slot), va_P D vwCl (xw (oC ac D yc) σ) H → va_P D vwCl (xw (oM am D ym) τ) H → va_D (lA s) (xw (oC ac D yc) σ) → va_D (lA s) (xw (oM am D ym) τ) → va_S (lA s) s.heap H locs → lv_has ls 4 [(0, .ref b), (1, .ref (ac 0)), (2, .ref (am 0)), (3, .int (nI i))] →
    W p l e room_1 s m #[Value.ref b] below meth c H locs kc ks (lw_Z below #[Value.ref b] s) (F0 m pc ls st)
section LR
variable {p : Program} {l : Launch} {e : Env} {s : State} {m : MethodId} {below : List Frame} {meth : Method} {c : Code} {b L : Nat} {xs : Nat → Int32} {ac am : Nat → Nat} {D : va_G} {yc ym : Nat → ClassId} {kc ks : Nat} {pc i : Nat} {st : List Value} {σ τ : xH}
theorem r_x (B : lB p s m meth c b L xs ac am D yc ym kc ks) (d : decode code pc = .ok (.aload_n 1, 1)) (k : Lw p l e s m below meth c b ac am D yc ym kc ks (pc + 1) i (.ref (ac 0) :: st) σ τ) : Lw p l e s m below meth c b ac am D yc ym kc ks pc i st σ τ := by
  intro H locs ls hP hPM hD hDM hS hl
  obtain ⟨⟨hx, hb, hr, hml, hown, hts0, hX, hbl, hlocks, hgv⟩, hKC, hKM, hEC, hEM, hap, hL, hk1, hk2⟩ := id B
  exact lv_aload_n hx hb d rfl (lv_at hl 1 rfl) (k H locs ls hP hPM hD hDM hS hl)
theorem r_m (B : lB p s m meth c b L xs ac am D yc ym kc ks) (d : decode code pc = .ok (.aload_n 2, 1)) (k : Lw p l e s m below meth c b ac am D yc ym kc ks (pc + 1) i (.ref (am 0) :: st) σ τ) : Lw p l e s m below meth c b ac am D yc ym kc ks pc i st σ τ := by
  intro H locs ls hP hPM hD hDM hS hl
  obtain ⟨⟨hx, hb, hr, hml, hown, hts0, hX, hbl, hlocks, hgv⟩, hKC, hKM, hEC, hEM, hap, hL, hk1, hk2⟩ := id B
  exact lv_aload_n hx hb d rfl (lv_at hl 2 rfl) (k H locs ls hP hPM hD hDM hS hl)
theorem r_s {k : Nat} (B : lB p s m meth c b L xs ac am D yc ym kc ks) (h : i + k < L) (d1 : decode code pc = .ok (.aload_n 0, 1)) (d2 : decode code (pc + 1) = .ok (.iload_n 3, 1)) (d3 : decode code (pc + 2) = .ok (.iconst k, 1)) (d4 : decode code (pc + 3) = .ok (.iadd, 1)) (d5 : decode code (pc + 4) = .ok (.iaload, 1)) (kk : Lw p l e s m below meth c b ac am D yc ym kc ks (pc + 5) i (.int (xs (i + k)) :: st) σ τ) : Lw p l e s m below meth c b ac am D yc ym kc ks pc i st σ τ := by
  intro H locs ls hP hPM hD hDM hS hl
  obtain ⟨⟨hx, hb, hr, hml, hown, hts0, hX, hbl, hlocks, hgv⟩, hKC, hKM, hEC, hEM, hap, hL, hk1, hk2⟩ := id B
  refine lv_aload_n hx hb d1 rfl (lv_at hl 0 rfl) ?_
  refine lv_iload_n hx hb d2 rfl (lv_at hl 3 rfl) ?_
  refine lv_iconst (v := nI k) hx hb d3 Int32.ofInt_eq_ofNat ?_
  refine lv_iadd hx hb d4 ?_
  rw [nI_add]
  refine va_sld hx hb hX hbl (Nat.not_le.mpr hbl) hS (vp_in_nI h (by omega)) d5 ?_
  rw [nI_clamp (by omega)]
  exact kk H locs ls hP hPM hD hDM hS hl
theorem r_cC {N : xM} {n idx : Nat} {As : List Value} {Q2 : Option Value → xH → Prop} (B : lB p s m meth c b L xs ac am D yc ym kc ks) (hd : decode code pc = .ok (.invokevirtual idx, 3)) (hN : xokV N n) (hlk : Cond.methodLink RL idx (xy N) ∈ gt) (hcl : (xy N).cls = RX4) (hn : As.length = n) (hlen : (xarg (.ref 0 :: As)).length ≤ xnL N) (hfit : (xrm N).frames + 1 ≤ room_1.frames ∧ 8 + (xnL N + 11) + (xrm N).locals ≤ room_1.locals) (hst : (st.map fun v => v.category).sum ≤ 8) (hv : Ev l (oC ac D yc) N (.ref 0 :: As) σ Q2) (k : ∀ r σ', Q2 r σ' → Lw p l e s m below meth c b ac am D yc ym kc ks (pc + 3) i ((r.map (xv ac)).toList ++ st) σ' τ) : Lw p l e s m below meth c b ac am D yc ym kc ks pc i ((As.map (xv ac)).reverse ++ .ref (ac 0) :: st) σ τ := by
  intro H locs ls hP hPM hD hDM hS hl
  obtain ⟨⟨hx, hb, hr, hml, hown, hts0, hX, hbl, hlocks, hgv⟩, hKC, hKM, hEC, hEM, hap, hL, hk1, hk2⟩ := id B
  have hts : ∀ w ∈ gt, w.before #[Value.ref b] s = true := fun w h => hts0 w (gt_in h)
  have hA : ∀ q, s.heap.size ≤ q → lA s q := fun q h => h
  have hM := x_met hv hN.1 (xlen_ok _ _ _ hlen) H.size
  have hsub := xA_sub (sz2 := H.size) hD hA hS.1
  refine x_back2 (A1 := xA (oC ac D yc) H.size) (va_runV (As := As.map (xv ac)) (rest := st) (b := ac 0) (C := (xy N).cls) (Ts := gt) (own := RL) ⟨hx, hb, hml, hown, hts⟩ hM
    ⟨callB_of n hts (xws_good hN.1) rfl hN.1.2.2.2.2.1 hN.1.2.2.2.2.2 (hts _ hN.1.1) (hts _ hlk) hN.1.2.2.2.1 hfit, hts _ hN.2.1, hts _ hN.2.2⟩
    ⟨xPc_blind, by rw [hcl]; exact x_recv (Ω := oC ac D yc) (b := 0) (ci := 3) rfl rfl (lA s) s H locs hKC hP hEC hS, fun U hU hW => xPc_at hP hD hS hKC hA hEC hU hW⟩ rfl (by rw [List.length_map]; exact hn) hl.1 rfl (lv_room hst) hd ⟨hk1, hk2⟩) hS hsub hsub (fun r σ' H1 locs1 hq hP1 hD1 hS1 hkeep => ?_)
  have hPM1 : va_P D vwCl (xw (oM am D ym) τ) H1 := hPM.kept (fun j q hj => hkeep q.1 (hPM j q hj).lt (fun z => by
    obtain ⟨h1, h2⟩ := xw_addr hj
    rcases z with ⟨j2, h3, h4⟩ | z
    · exact hap j2 j h3 h1 (h4.symm.trans h2)
    · exact absurd (hPM j q hj).lt (Nat.not_lt.mpr z)))
  exact k r σ' hq H1 locs1 ls hP1 hPM1 (hD1.weaken (fun _ q _ h => hsub q.1 h)) hDM hS1 hl
theorem r_cC0 {N : xM} {idx : Nat}  (B : lB p s m meth c b L xs ac am D yc ym kc ks) (hd : decode code pc = .ok (.invokevirtual idx, 3)) (hN : xokV N 0) (hlk : Cond.methodLink RL idx (xy N) ∈ gt) (hcl : (xy N).cls = RX4) (hlen : (xarg (.ref 0 :: [])).length ≤ xnL N) (hfit : (xrm N).frames + 1 ≤ room_1.frames ∧ 8 + (xnL N + 11) + (xrm N).locals ≤ room_1.locals) (hst : (st.map fun v => v.category).sum ≤ 8) (hv : Evi l (oC ac D yc) N (.ref 0 :: []) σ (fun x σ' => Lw p l e s m below meth c b ac am D yc ym kc ks (pc + 3) i (.int x :: st) σ' τ)) : Lw p l e s m below meth c b ac am D yc ym kc ks pc i (.ref (ac 0) :: st) σ τ :=
  r_cC (As := []) B hd hN hlk hcl rfl hlen hfit hst hv (fun r t h => by obtain ⟨x, rfl, h⟩ := h; exact h)
theorem r_cC1 {N : xM} {idx : Nat} {x0 : Int32} (B : lB p s m meth c b L xs ac am D yc ym kc ks) (hd : decode code pc = .ok (.invokevirtual idx, 3)) (hN : xokV N 1) (hlk : Cond.methodLink RL idx (xy N) ∈ gt) (hcl : (xy N).cls = RX4) (hlen : (xarg (.ref 0 :: [.int x0])).length ≤ xnL N) (hfit : (xrm N).frames + 1 ≤ room_1.frames ∧ 8 + (xnL N + 11) + (xrm N).locals ≤ room_1.locals) (hst : (st.map fun v => v.category).sum ≤ 8) (hv : Evi l (oC ac D yc) N (.ref 0 :: [.int x0]) σ (fun x σ' => Lw p l e s m below meth c b ac am D yc ym kc ks (pc + 3) i (.int x :: st) σ' τ)) : Lw p l e s m below meth c b ac am D yc ym kc ks pc i (.int x0 :: .ref (ac 0) :: st) σ τ :=
  r_cC (As := [.int x0]) B hd hN hlk hcl rfl hlen hfit hst hv (fun r t h => by obtain ⟨x, rfl, h⟩ := h; exact h)
theorem r_cC2 {N : xM} {idx : Nat} {x0 : Int32} {x1 : Int32} (B : lB p s m meth c b L xs ac am D yc ym kc ks) (hd : decode code pc = .ok (.invokevirtual idx, 3)) (hN : xokV N 2) (hlk : Cond.methodLink RL idx (xy N) ∈ gt) (hcl : (xy N).cls = RX4) (hlen : (xarg (.ref 0 :: [.int x0, .int x1])).length ≤ xnL N) (hfit : (xrm N).frames + 1 ≤ room_1.frames ∧ 8 + (xnL N + 11) + (xrm N).locals ≤ room_1.locals) (hst : (st.map fun v => v.category).sum ≤ 8) (hv : Evi l (oC ac D yc) N (.ref 0 :: [.int x0, .int x1]) σ (fun x σ' => Lw p l e s m below meth c b ac am D yc ym kc ks (pc + 3) i (.int x :: st) σ' τ)) : Lw p l e s m below meth c b ac am D yc ym kc ks pc i (.int x1 :: .int x0 :: .ref (ac 0) :: st) σ τ :=
  r_cC (As := [.int x0, .int x1]) B hd hN hlk hcl rfl hlen hfit hst hv (fun r t h => by obtain ⟨x, rfl, h⟩ := h; exact h)
theorem r_cC3 {N : xM} {idx : Nat} {x0 : Int32} {x1 : Int32} {x2 : Int32} (B : lB p s m meth c b L xs ac am D yc ym kc ks) (hd : decode code pc = .ok (.invokevirtual idx, 3)) (hN : xokV N 3) (hlk : Cond.methodLink RL idx (xy N) ∈ gt) (hcl : (xy N).cls = RX4) (hlen : (xarg (.ref 0 :: [.int x0, .int x1, .int x2])).length ≤ xnL N) (hfit : (xrm N).frames + 1 ≤ room_1.frames ∧ 8 + (xnL N + 11) + (xrm N).locals ≤ room_1.locals) (hst : (st.map fun v => v.category).sum ≤ 8) (hv : Evi l (oC ac D yc) N (.ref 0 :: [.int x0, .int x1, .int x2]) σ (fun x σ' => Lw p l e s m below meth c b ac am D yc ym kc ks (pc + 3) i (.int x :: st) σ' τ)) : Lw p l e s m below meth c b ac am D yc ym kc ks pc i (.int x2 :: .int x1 :: .int x0 :: .ref (ac 0) :: st) σ τ :=
  r_cC (As := [.int x0, .int x1, .int x2]) B hd hN hlk hcl rfl hlen hfit hst hv (fun r t h => by obtain ⟨x, rfl, h⟩ := h; exact h)
theorem r_cC5 {N : xM} {idx : Nat} {x0 : Int32} {x1 : Int32} {x2 : Int32} {x3 : Int32} {x4 : Int32} (B : lB p s m meth c b L xs ac am D yc ym kc ks) (hd : decode code pc = .ok (.invokevirtual idx, 3)) (hN : xokV N 5) (hlk : Cond.methodLink RL idx (xy N) ∈ gt) (hcl : (xy N).cls = RX4) (hlen : (xarg (.ref 0 :: [.int x0, .int x1, .int x2, .int x3, .int x4])).length ≤ xnL N) (hfit : (xrm N).frames + 1 ≤ room_1.frames ∧ 8 + (xnL N + 11) + (xrm N).locals ≤ room_1.locals) (hst : (st.map fun v => v.category).sum ≤ 8) (hv : Evi l (oC ac D yc) N (.ref 0 :: [.int x0, .int x1, .int x2, .int x3, .int x4]) σ (fun x σ' => Lw p l e s m below meth c b ac am D yc ym kc ks (pc + 3) i (.int x :: st) σ' τ)) : Lw p l e s m below meth c b ac am D yc ym kc ks pc i (.int x4 :: .int x3 :: .int x2 :: .int x1 :: .int x0 :: .ref (ac 0) :: st) σ τ :=
  r_cC (As := [.int x0, .int x1, .int x2, .int x3, .int x4]) B hd hN hlk hcl rfl hlen hfit hst hv (fun r t h => by obtain ⟨x, rfl, h⟩ := h; exact h)
theorem r_cC3l {N : xM} {idx : Nat} {x0 : Int32} {x1 : Int32} {x2 : Int64} (B : lB p s m meth c b L xs ac am D yc ym kc ks) (hd : decode code pc = .ok (.invokevirtual idx, 3)) (hN : xokV N 3) (hlk : Cond.methodLink RL idx (xy N) ∈ gt) (hcl : (xy N).cls = RX4) (hlen : (xarg (.ref 0 :: [.int x0, .int x1, .long x2])).length ≤ xnL N) (hfit : (xrm N).frames + 1 ≤ room_1.frames ∧ 8 + (xnL N + 11) + (xrm N).locals ≤ room_1.locals) (hst : (st.map fun v => v.category).sum ≤ 8) (hv : Evl l (oC ac D yc) N (.ref 0 :: [.int x0, .int x1, .long x2]) σ (fun x σ' => Lw p l e s m below meth c b ac am D yc ym kc ks (pc + 3) i (.long x :: st) σ' τ)) : Lw p l e s m below meth c b ac am D yc ym kc ks pc i (.long x2 :: .int x1 :: .int x0 :: .ref (ac 0) :: st) σ τ :=
  r_cC (As := [.int x0, .int x1, .long x2]) B hd hN hlk hcl rfl hlen hfit hst hv (fun r t h => by obtain ⟨x, rfl, h⟩ := h; exact h)
theorem r_cM {N : xM} {n idx : Nat} {As : List Value} {Q2 : Option Value → xH → Prop} (B : lB p s m meth c b L xs ac am D yc ym kc ks) (hd : decode code pc = .ok (.invokevirtual idx, 3)) (hN : xokV N n) (hlk : Cond.methodLink RL idx (xy N) ∈ gt) (hcl : (xy N).cls = RX5) (hn : As.length = n) (hlen : (xarg (.ref 0 :: As)).length ≤ xnL N) (hfit : (xrm N).frames + 1 ≤ room_1.frames ∧ 8 + (xnL N + 11) + (xrm N).locals ≤ room_1.locals) (hst : (st.map fun v => v.category).sum ≤ 8) (hv : Ev l (oM am D ym) N (.ref 0 :: As) τ Q2) (k : ∀ r τ', Q2 r τ' → Lw p l e s m below meth c b ac am D yc ym kc ks (pc + 3) i ((r.map (xv am)).toList ++ st) σ τ') : Lw p l e s m below meth c b ac am D yc ym kc ks pc i ((As.map (xv am)).reverse ++ .ref (am 0) :: st) σ τ := by
  intro H locs ls hP hPM hD hDM hS hl
  obtain ⟨⟨hx, hb, hr, hml, hown, hts0, hX, hbl, hlocks, hgv⟩, hKC, hKM, hEC, hEM, hap, hL, hk1, hk2⟩ := id B
  have hts : ∀ w ∈ gt, w.before #[Value.ref b] s = true := fun w h => hts0 w (gt_in h)
  have hA : ∀ q, s.heap.size ≤ q → lA s q := fun q h => h
  have hM := x_met hv hN.1 (xlen_ok _ _ _ hlen) H.size
  have hsub := xA_sub (sz2 := H.size) hDM hA hS.1
  refine x_back2 (A1 := xA (oM am D ym) H.size) (va_runV (As := As.map (xv am)) (rest := st) (b := am 0) (C := (xy N).cls) (Ts := gt) (own := RL) ⟨hx, hb, hml, hown, hts⟩ hM
    ⟨callB_of n hts (xws_good hN.1) rfl hN.1.2.2.2.2.1 hN.1.2.2.2.2.2 (hts _ hN.1.1) (hts _ hlk) hN.1.2.2.2.1 hfit, hts _ hN.2.1, hts _ hN.2.2⟩
    ⟨xPc_blind, by rw [hcl]; exact x_recv (Ω := oM am D ym) (b := 0) (ci := 4) rfl rfl (lA s) s H locs hKM hPM hEM hS, fun U hU hW => xPc_at hPM hDM hS hKM hA hEM hU hW⟩ rfl (by rw [List.length_map]; exact hn) hl.1 rfl (lv_room hst) hd ⟨hk1, hk2⟩) hS hsub hsub (fun r τ' H1 locs1 hq hP1 hD1 hS1 hkeep => ?_)
  have hP2 : va_P D vwCl (xw (oC ac D yc) σ) H1 := hP.kept (fun j q hj => hkeep q.1 (hP j q hj).lt (fun z => by
    obtain ⟨h1, h2⟩ := xw_addr hj
    rcases z with ⟨j2, h3, h4⟩ | z
    · exact hap j j2 h1 h3 (h2.symm.trans h4)
    · exact absurd (hP j q hj).lt (Nat.not_lt.mpr z)))
  exact k r τ' hq H1 locs1 ls hP2 hP1 hD (hD1.weaken (fun _ q _ h => hsub q.1 h)) hS1 hl
theorem r_cM0 {N : xM} {idx : Nat}  (B : lB p s m meth c b L xs ac am D yc ym kc ks) (hd : decode code pc = .ok (.invokevirtual idx, 3)) (hN : xokV N 0) (hlk : Cond.methodLink RL idx (xy N) ∈ gt) (hcl : (xy N).cls = RX5) (hlen : (xarg (.ref 0 :: [])).length ≤ xnL N) (hfit : (xrm N).frames + 1 ≤ room_1.frames ∧ 8 + (xnL N + 11) + (xrm N).locals ≤ room_1.locals) (hst : (st.map fun v => v.category).sum ≤ 8) (hv : Evi l (oM am D ym) N (.ref 0 :: []) τ (fun x τ' => Lw p l e s m below meth c b ac am D yc ym kc ks (pc + 3) i (.int x :: st) σ τ')) : Lw p l e s m below meth c b ac am D yc ym kc ks pc i (.ref (am 0) :: st) σ τ :=
  r_cM (As := []) B hd hN hlk hcl rfl hlen hfit hst hv (fun r t h => by obtain ⟨x, rfl, h⟩ := h; exact h)
theorem r_cM1 {N : xM} {idx : Nat} {x0 : Int32} (B : lB p s m meth c b L xs ac am D yc ym kc ks) (hd : decode code pc = .ok (.invokevirtual idx, 3)) (hN : xokV N 1) (hlk : Cond.methodLink RL idx (xy N) ∈ gt) (hcl : (xy N).cls = RX5) (hlen : (xarg (.ref 0 :: [.int x0])).length ≤ xnL N) (hfit : (xrm N).frames + 1 ≤ room_1.frames ∧ 8 + (xnL N + 11) + (xrm N).locals ≤ room_1.locals) (hst : (st.map fun v => v.category).sum ≤ 8) (hv : Evi l (oM am D ym) N (.ref 0 :: [.int x0]) τ (fun x τ' => Lw p l e s m below meth c b ac am D yc ym kc ks (pc + 3) i (.int x :: st) σ τ')) : Lw p l e s m below meth c b ac am D yc ym kc ks pc i (.int x0 :: .ref (am 0) :: st) σ τ :=
  r_cM (As := [.int x0]) B hd hN hlk hcl rfl hlen hfit hst hv (fun r t h => by obtain ⟨x, rfl, h⟩ := h; exact h)
theorem r_cM2 {N : xM} {idx : Nat} {x0 : Int32} {x1 : Int32} (B : lB p s m meth c b L xs ac am D yc ym kc ks) (hd : decode code pc = .ok (.invokevirtual idx, 3)) (hN : xokV N 2) (hlk : Cond.methodLink RL idx (xy N) ∈ gt) (hcl : (xy N).cls = RX5) (hlen : (xarg (.ref 0 :: [.int x0, .int x1])).length ≤ xnL N) (hfit : (xrm N).frames + 1 ≤ room_1.frames ∧ 8 + (xnL N + 11) + (xrm N).locals ≤ room_1.locals) (hst : (st.map fun v => v.category).sum ≤ 8) (hv : Evi l (oM am D ym) N (.ref 0 :: [.int x0, .int x1]) τ (fun x τ' => Lw p l e s m below meth c b ac am D yc ym kc ks (pc + 3) i (.int x :: st) σ τ')) : Lw p l e s m below meth c b ac am D yc ym kc ks pc i (.int x1 :: .int x0 :: .ref (am 0) :: st) σ τ :=
  r_cM (As := [.int x0, .int x1]) B hd hN hlk hcl rfl hlen hfit hst hv (fun r t h => by obtain ⟨x, rfl, h⟩ := h; exact h)
theorem r_cM3 {N : xM} {idx : Nat} {x0 : Int32} {x1 : Int32} {x2 : Int32} (B : lB p s m meth c b L xs ac am D yc ym kc ks) (hd : decode code pc = .ok (.invokevirtual idx, 3)) (hN : xokV N 3) (hlk : Cond.methodLink RL idx (xy N) ∈ gt) (hcl : (xy N).cls = RX5) (hlen : (xarg (.ref 0 :: [.int x0, .int x1, .int x2])).length ≤ xnL N) (hfit : (xrm N).frames + 1 ≤ room_1.frames ∧ 8 + (xnL N + 11) + (xrm N).locals ≤ room_1.locals) (hst : (st.map fun v => v.category).sum ≤ 8) (hv : Evi l (oM am D ym) N (.ref 0 :: [.int x0, .int x1, .int x2]) τ (fun x τ' => Lw p l e s m below meth c b ac am D yc ym kc ks (pc + 3) i (.int x :: st) σ τ')) : Lw p l e s m below meth c b ac am D yc ym kc ks pc i (.int x2 :: .int x1 :: .int x0 :: .ref (am 0) :: st) σ τ :=
  r_cM (As := [.int x0, .int x1, .int x2]) B hd hN hlk hcl rfl hlen hfit hst hv (fun r t h => by obtain ⟨x, rfl, h⟩ := h; exact h)
theorem r_cM5 {N : xM} {idx : Nat} {x0 : Int32} {x1 : Int32} {x2 : Int32} {x3 : Int32} {x4 : Int32} (B : lB p s m meth c b L xs ac am D yc ym kc ks) (hd : decode code pc = .ok (.invokevirtual idx, 3)) (hN : xokV N 5) (hlk : Cond.methodLink RL idx (xy N) ∈ gt) (hcl : (xy N).cls = RX5) (hlen : (xarg (.ref 0 :: [.int x0, .int x1, .int x2, .int x3, .int x4])).length ≤ xnL N) (hfit : (xrm N).frames + 1 ≤ room_1.frames ∧ 8 + (xnL N + 11) + (xrm N).locals ≤ room_1.locals) (hst : (st.map fun v => v.category).sum ≤ 8) (hv : Evi l (oM am D ym) N (.ref 0 :: [.int x0, .int x1, .int x2, .int x3, .int x4]) τ (fun x τ' => Lw p l e s m below meth c b ac am D yc ym kc ks (pc + 3) i (.int x :: st) σ τ')) : Lw p l e s m below meth c b ac am D yc ym kc ks pc i (.int x4 :: .int x3 :: .int x2 :: .int x1 :: .int x0 :: .ref (am 0) :: st) σ τ :=
  r_cM (As := [.int x0, .int x1, .int x2, .int x3, .int x4]) B hd hN hlk hcl rfl hlen hfit hst hv (fun r t h => by obtain ⟨x, rfl, h⟩ := h; exact h)
theorem r_cM3l {N : xM} {idx : Nat} {x0 : Int32} {x1 : Int32} {x2 : Int64} (B : lB p s m meth c b L xs ac am D yc ym kc ks) (hd : decode code pc = .ok (.invokevirtual idx, 3)) (hN : xokV N 3) (hlk : Cond.methodLink RL idx (xy N) ∈ gt) (hcl : (xy N).cls = RX5) (hlen : (xarg (.ref 0 :: [.int x0, .int x1, .long x2])).length ≤ xnL N) (hfit : (xrm N).frames + 1 ≤ room_1.frames ∧ 8 + (xnL N + 11) + (xrm N).locals ≤ room_1.locals) (hst : (st.map fun v => v.category).sum ≤ 8) (hv : Evl l (oM am D ym) N (.ref 0 :: [.int x0, .int x1, .long x2]) τ (fun x τ' => Lw p l e s m below meth c b ac am D yc ym kc ks (pc + 3) i (.long x :: st) σ τ')) : Lw p l e s m below meth c b ac am D yc ym kc ks pc i (.long x2 :: .int x1 :: .int x0 :: .ref (am 0) :: st) σ τ :=
  r_cM (As := [.int x0, .int x1, .long x2]) B hd hN hlk hcl rfl hlen hfit hst hv (fun r t h => by obtain ⟨x, rfl, h⟩ := h; exact h)
theorem r_eq {x y : Int32} {off : Int} {tgt : Nat} (B : lB p s m meth c b L xs ac am D yc ym kc ks) (d : decode code pc = .ok (.if_icmp .eq off, 3)) (ht : (pc : Int) + off = (tgt : Int)) (h : x = y) (k : Lw p l e s m below meth c b ac am D yc ym kc ks tgt i st σ τ) : Lw p l e s m below meth c b ac am D yc ym kc ks pc i (.int y :: .int x :: st) σ τ := by
  intro H locs ls hP hPM hD hDM hS hl
  obtain ⟨⟨hx, hb, hr, hml, hown, hts0, hX, hbl, hlocks, hgv⟩, hKC, hKM, hEC, hEM, hap, hL, hk1, hk2⟩ := id B
  exact lv_icmp_eq hx hb d ht (fun _ => k H locs ls hP hPM hD hDM hS hl) (fun z => absurd h z)
theorem r_leq {x y : Int64} {off : Int} {tgt : Nat} (B : lB p s m meth c b L xs ac am D yc ym kc ks) (d1 : decode code pc = .ok (.lcmp, 1)) (d2 : decode code (pc + 1) = .ok (.ifCond .eq off, 3)) (ht : ((pc + 1 : Nat) : Int) + off = (tgt : Int)) (h : x = y) (k : Lw p l e s m below meth c b ac am D yc ym kc ks tgt i st σ τ) : Lw p l e s m below meth c b ac am D yc ym kc ks pc i (.long y :: .long x :: st) σ τ := by
  intro H locs ls hP hPM hD hDM hS hl
  obtain ⟨⟨hx, hb, hr, hml, hown, hts0, hX, hbl, hlocks, hgv⟩, hKC, hKM, hEC, hEM, hap, hL, hk1, hk2⟩ := id B
  refine W.lcmp hx hb d1 ?_
  have h0 : lg_cmp x y = 0 := by
    subst h
    unfold lg_cmp
    have hn : ¬ x < x := fun z => by rw [Int64.lt_iff_toInt_lt] at z; omega
    rw [if_neg (show ¬ x > x from hn), if_pos rfl]
  exact lv_if_eq hx hb d2 ht (fun _ => k H locs ls hP hPM hD hDM hS hl) (fun z => absurd h0 z)
theorem r_i2l {x : Int32} (B : lB p s m meth c b L xs ac am D yc ym kc ks) (d : decode code pc = .ok (.i2l, 1)) (k : Lw p l e s m below meth c b ac am D yc ym kc ks (pc + 1) i (.long x.toInt64 :: st) σ τ) : Lw p l e s m below meth c b ac am D yc ym kc ks pc i (.int x :: st) σ τ := by
  intro H locs ls hP hPM hD hDM hS hl
  obtain ⟨⟨hx, hb, hr, hml, hown, hts0, hX, hbl, hlocks, hgv⟩, hKC, hKM, hEC, hEM, hap, hL, hk1, hk2⟩ := id B
  exact lv_i2l hx hb d rfl (k H locs ls hP hPM hD hDM hS hl)
theorem r_shl {x : Int64} (B : lB p s m meth c b L xs ac am D yc ym kc ks) (d1 : decode code pc = .ok (.bipush 32, 2)) (d2 : decode code (pc + 2) = .ok (.lshl, 1)) (k : Lw p l e s m below meth c b ac am D yc ym kc ks (pc + 3) i (.long (x <<< ((32 : Int32).toInt64 &&& 63)) :: st) σ τ) : Lw p l e s m below meth c b ac am D yc ym kc ks pc i (.long x :: st) σ τ := by
  intro H locs ls hP hPM hD hDM hS hl
  obtain ⟨⟨hx, hb, hr, hml, hown, hts0, hX, hbl, hlocks, hgv⟩, hKC, hKM, hEC, hEM, hap, hL, hk1, hk2⟩ := id B
  refine lv_bipush (v := 32) hx hb d1 (by decide) ?_
  exact lv_lshl hx hb d2 rfl (k H locs ls hP hPM hD hDM hS hl)
theorem r_and {x y : Int64} (B : lB p s m meth c b L xs ac am D yc ym kc ks) (d1 : decode code pc = .ok (.ldc2_w 133, 3)) (d2 : decode code (pc + 3) = .ok (.land, 1)) (d3 : decode code (pc + 4) = .ok (.lor, 1)) (k : Lw p l e s m below meth c b ac am D yc ym kc ks (pc + 5) i (.long (y ||| (x &&& 4294967295)) :: st) σ τ) : Lw p l e s m below meth c b ac am D yc ym kc ks pc i (.long x :: .long y :: st) σ τ := by
  intro H locs ls hP hPM hD hDM hS hl
  obtain ⟨⟨hx, hb, hr, hml, hown, hts0, hX, hbl, hlocks, hgv⟩, hKC, hKM, hEC, hEM, hap, hL, hk1, hk2⟩ := id B
  refine lv_ldc2 (v := 4294967295) hx hb (own := RL) hown (hts0 _ (gt_in kl_L_133)) d1 ?_
  refine lv_land hx hb d2 ?_
  exact lv_lor hx hb d3 (k H locs ls hP hPM hD hDM hS hl)
end LR
