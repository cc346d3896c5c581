/-- the cells of a world, and those that are made later -/
def xA (Ω : xW) (sz : Nat) : Nat → Prop := fun q => (∃ k, k < (xsh Ω).length ∧ q = xad Ω k) ∨ sz ≤ q
theorem xw_addr {Ω : xW} {σ : xH} {k : Nat} {q : Nat × va_E} (h : (xw Ω σ)[k]? = some q) : k < (xsh Ω).length ∧ q.1 = xad Ω k := by
  unfold xw at h
  rw [List.getElem?_mapIdx] at h
  cases hk : (xsh Ω)[k]? with
  | none => rw [hk] at h; cases h
  | some e =>
    rw [hk] at h
    have := Option.some.inj h
    exact ⟨(List.getElem?_eq_some_iff.mp hk).1, by rw [← this]⟩
theorem xD_any {Ω : xW} {σ : xH} {A : Nat → Prop} {sz : Nat} (h : va_D A (xw Ω σ)) : va_D (xA Ω sz) (xw Ω σ) :=
  ⟨h.1, fun k q hk => Or.inl ⟨k, (xw_addr hk).1, (xw_addr hk).2⟩⟩
theorem xA_sub {Ω : xW} {σ : xH} {A : Nat → Prop} {sz sz2 : Nat} (h : va_D A (xw Ω σ)) (hA : ∀ q, sz ≤ q → A q) (hle : sz ≤ sz2) : ∀ q, xA Ω sz2 q → A q := by
  intro q hq
  rcases hq with ⟨k, hk, rfl⟩ | hq
  · have : (xw Ω σ)[k]? = some (xad Ω k, xce (xad Ω) (xcy Ω) σ k ((xsh Ω)[k])) := xw_get (List.getElem?_eq_getElem hk)
    exact h.2 k _ this
  · exact hA q (Nat.le_trans hle hq)
/-- the tables' words of a method -/
def xok (N : xM) (n : Nat) : Prop := Cond.initialized (xy N).cls ∈ gt ∧ Cond.code (xy N) (xcc N) (xnL N) (xret N) ∈ gt ∧ plainName (xy N).cls = true ∧ ((xy N).cls ≠ "java/lang/invoke/MethodHandle" ∧ (xy N).cls ≠ "java/lang/invoke/VarHandle" ∧ (parseMethodDescriptor (xy N).desc).map (fun d => d.parameters.length) = some n) ∧ (xrm N).cells = 0 ∧ (xrm N).slots = 0
def xokV (N : xM) (n : Nat) : Prop := xok N n ∧ Cond.instanceMethod (xy N) ∈ gt ∧ Cond.selects (xy N).cls (xy N) (xy N) ∈ gt
def xokS (N : xM) (n : Nat) : Prop := xok N n ∧ Cond.static (xy N) ∈ gt
abbrev xws (N : xM) : List Cond := Cond.code (xy N) (xcc N) (xnL N) (xret N) :: gt
theorem xws_good {N : xM} {n : Nat} (h : xok N n) : GoodIn gt (xws N) := fun w hw => by
  rcases List.mem_cons.mp hw with e | e
  · rw [e]; exact gt_gt _ h.2.1
  · exact gt_gt w e
def xPc (Ω : xW) (σ : xH) (sz : Nat) (as : List Value) : Array Value → State → Prop := va_Pc (as.map (xv (xad Ω))) (fun U => U.heap.size = sz ∧ va_P (xD Ω) vwCl (xw Ω σ) U.heap ∧ va_K (xD Ω) vwCl (xtys Ω) U ∧ va_D (fun _ => True) (xw Ω σ) ∧ xE Ω (xA Ω sz) U U.heap)
theorem x_met {l : Launch} {Ω : xW} {N : xM} {n : Nat} {as : List Value} {σ : xH} {Q : Option Value → xH → Prop} (h : Ev l Ω N as σ Q) (hN : xok N n) (hlen : (lg_sl (as.map (xv (xad Ω)))).length ≤ xnL N) (sz : Nat) : Met l (xy N) (xws N) (xrm N) (xPc Ω σ sz as) (xQc Ω (xA Ω sz) Q) 0 0 (xA Ω sz) := by
  refine Met.ofW (cc := xcc N) (maxL := xnL N) (ret := xret N) hN.2.2.1 rfl ?_
  intro p e s m args below meth c s₁ B hml hv
  obtain ⟨rfl, hsz, hP, hK, hD0, hE⟩ := hv
  have hts := atoms_spec (ws := xws N) B.pre
  subst hsz
  have hl := lv_entry (as.map (xv (xad Ω))) (n := xnL N) hlen
  rw [lg_entry_eq]
  exact h p e s m _ below meth c s.heap [] (xA Ω s.heap.size) _ ⟨B.exec, B.bytes, B.returns, hml, findClass_of_methodNamed B.named, fun w hw => hts w (List.mem_cons_of_mem _ hw), B.notSynchronized, hK, fun q hq => Or.inr hq, hE⟩ hP (xD_any hD0) va_S.rf ⟨hl.1, hl.2.1, fun q hq => hl.2.2 q (xent_in _ as 0 q hq)⟩
theorem xPc_blind {Ω : xW} {σ : xH} {sz : Nat} {as : List Value} : FrameBlind (xPc Ω σ sz as) := fun a U g mk q => by
  obtain ⟨q0, q1, q2, q3, q4, q5⟩ := q
  exact ⟨q0, q1, q2, va_K.moved (u := U) (U := U.calling g mk a) (Vm.Alike.refl U.vm) q3, q4, xE_same (U := U.calling g mk a) q5 rfl⟩
theorem xPc_at {Ω : xW} {σ : xH} {as : List Value} {A : Nat → Prop} {s U : State} {H : Heap} {locs : List Loc} (hP : va_P (xD Ω) vwCl (xw Ω σ) H) (hD : va_D A (xw Ω σ)) (hS : va_S A s.heap H locs) (hK : va_K (xD Ω) vwCl (xtys Ω) s) (hA : ∀ q, s.heap.size ≤ q → A q) (hE : xE Ω A s s.heap) (hU : U.heap = H) (hW : s.WarmedH U.vm) : xPc Ω σ H.size as (as.map (xv (xad Ω))).toArray U :=
  ⟨rfl, by rw [hU], by rw [hU]; exact hP, va_K.moved hW.alike hK, hD.weaken (fun _ _ _ _ => trivial), by rw [hU]; exact xE_to hE hW hS.2.1 (xA_sub hD hA hS.1)⟩
theorem x_back {p : Program} {l : Launch} {e : Env} {R : Room} {s : State} {m : MethodId} {args : Array Value} {below : List Frame} {meth : Method} {c : Code} {H H0 : Heap} {locs : List Loc} {Qf : State → Prop} {Ω : xW} {A0 A1 : Nat → Prop} {Q2 : Option Value → xH → Prop} {a : Array Value} {free : Addr → Prop} {pc : Nat} {ls' : Array Slot} {st0 rest : List Value}
    (hr : va_Run p l e R s m args below meth c H locs 0 0 0 0 (F0 m pc ls' st0) rest (xQc Ω A1 Q2 a) free) (hS : va_S A0 H0 H locs) (hA : ∀ q, A1 q → A0 q) (hf : ∀ q, free q → A0 q)
    (kk : ∀ (r : Option Value) (τ : xH) (H1 : Heap) (locs1 : List Loc), Q2 r τ → va_P (xD Ω) vwCl (xw Ω τ) H1 → va_D A1 (xw Ω τ) → va_S A0 H0 H1 locs1 → W p l e R s m args below meth c H1 locs1 0 0 Qf (F0 m (pc + 3) ls' ((r.map (xv (xad Ω))).toList ++ rest))) : W p l e R s m args below meth c H locs 0 0 Qf (F0 m pc ls' st0) := by
  intro T hT X
  obtain ⟨v, st₀, t, T', L, h0, X', hL, e1, e2, ⟨⟨r, τ, hv, hp, hb, hk1, hd1⟩, hz, hk⟩, st⟩ := hr T hT X
  cases hv
  rw [h0] at hz hk
  obtain ⟨t2, a1, b1⟩ := kk r τ T'.heap (locs ++ L) hp (by rw [e1]; exact hb) hd1
    ⟨Nat.le_trans hS.1 (by rw [e1]; exact hz), fun q h1 h2 => by rw [e1, hk q (Nat.lt_of_lt_of_le h1 hS.1) (fun z => h2 (hA q z))]; exact hS.2.1 q h1 h2, fun q hq => by
      rcases List.mem_append.mp hq with h | h
      · exact hS.2.2 q h
      · exact hf _ (hL q h)⟩ T' rfl X'
  exact ⟨t2, st t2 a1, b1⟩
theorem xstk (ad : Nat → Nat) (r : Option Value) (st : List Value) : (r.map (xv ad)).toList ++ st.map (xv ad) = (r.toList ++ st).map (xv ad) := by cases r <;> rfl
theorem xargs (ad : Nat → Nat) (As : List Value) (st : List Value) : (As.reverse ++ st).map (xv ad) = (As.map (xv ad)).reverse ++ st.map (xv ad) := by simp
/-- the rooms of a call -/
abbrev xfit (M N : xM) : Prop := (xrm N).frames + 1 ≤ (xrm M).frames ∧ 8 + (xnL N + 11) + (xrm N).locals ≤ (xrm M).locals
theorem xarg_len (ad : Nat → Nat) : ∀ (as : List Value), (lg_sl (as.map (xv ad))).length = (xarg as).length := by
  intro as
  induction as with
  | nil => rfl
  | cons v t ih =>
    have e : lg_sl ((v :: t).map (xv ad)) = (if v.category = 2 then [Slot.val (xv ad v), .second] else [.val (xv ad v)]) ++ lg_sl (t.map (xv ad)) := by
      simp [lg_sl, xv_cat]
    rw [e, xarg, List.length_append, ih]
    by_cases hc : v.category = 2
    · rw [if_pos hc, if_pos hc]; simp; omega
    · rw [if_neg hc, if_neg hc]; simp; omega
theorem xlen_ok (ad : Nat → Nat) (as : List Value) (n : Nat) (h : (xarg as).length ≤ n) : (lg_sl (as.map (xv ad))).length ≤ n := by rw [xarg_len]; exact h
section XC
variable {l : Launch} {Ω : xW} {M N : xM} {pc idx : Nat} {ls : List (Option Value)} {st : List Value} {σ : xH} {Q Q2 : Option Value → xH → Prop}
theorem x_callV0 {b n : Nat} {As : List Value} (hd : decode (xcc M) pc = .ok (.invokevirtual idx, 3)) (hN : xokV N n) (hlk : Cond.methodLink (xy M).cls idx (xy N) ∈ gt)
    (hrc : ∀ (A : Nat → Prop) (s : State) (H : Heap) (locs : List Loc), va_K (xD Ω) vwCl (xtys Ω) s → va_P (xD Ω) vwCl (xw Ω σ) H → xE Ω A s s.heap → va_S A s.heap H locs → ∃ cell : Cell, H[xad Ω b]? = some cell ∧ cell.vm.isStatics = false ∧ s.vm.findClass (xy N).cls = some cell.cls)
    (hn : As.length = n) (hlen : (lg_sl ((Value.ref b :: As).map (xv (xad Ω)))).length ≤ xnL N) (hfit : xfit M N) (hst : (st.map fun v => v.category).sum ≤ 8) (hv : Ev l Ω N (.ref b :: As) σ Q2)
    (k : ∀ r τ, Q2 r τ → Ex l Ω M (pc + 3) ls (r.toList ++ st) τ Q) : Ex l Ω M pc ls (As.reverse ++ .ref b :: st) σ Q := by
  intro p e s m args below meth c H locs A ls' B hP hD hS hl
  obtain ⟨hx, hb, hr, hml, hown, hts, hlk2, hK, hA, hE⟩ := id B
  have hM := x_met hv hN.1 hlen H.size
  have hsub := xA_sub (sz2 := H.size) hD hA hS.1
  rw [xargs]
  refine x_back (A1 := xA Ω H.size) (va_runV (As := As.map (xv (xad Ω))) (rest := st.map (xv (xad Ω))) (b := xad Ω b) (C := (xy N).cls) (Ts := gt) ⟨hx, hb, hml, hown, hts⟩ hM
    ⟨callB_of n hts (xws_good hN.1) rfl hN.1.2.2.2.2.1 hN.1.2.2.2.2.2 (hts _ hN.1.1) (hts _ hlk) hN.1.2.2.2.1 hfit, hts _ hN.2.1, hts _ hN.2.2⟩
    ⟨xPc_blind, hrc A s H locs hK hP hE hS, fun U hU hW => xPc_at hP hD hS hK hA hE hU hW⟩ rfl (by rw [List.length_map]; exact hn) hl.1 rfl (lv_room (by rw [xcats]; exact hst)) hd ⟨Nat.zero_le _, Nat.zero_le _⟩) hS hsub hsub (fun r τ H1 locs1 hq hP1 hD1 hS1 => ?_)
  rw [xstk]
  exact k r τ hq p e s m args below meth c H1 locs1 A ls' B hP1 (hD1.weaken (fun _ q _ h => hsub q.1 h)) hS1 hl
theorem x_recv {b ci n : Nat} {fs : List xF} {C : String} {T : u_T} (hs : (xsh Ω)[b]? = some (.inr (ci, fs))) (hc : vwCl[ci]? = some (C, T, n)) (A : Nat → Prop) (s : State) (H : Heap) (locs : List Loc) (hK : va_K (xD Ω) vwCl (xtys Ω) s) (hP : va_P (xD Ω) vwCl (xw Ω σ) H) (_ : xE Ω A s s.heap) (_ : va_S A s.heap H locs) : ∃ cell : Cell, H[xad Ω b]? = some cell ∧ cell.vm.isStatics = false ∧ s.vm.findClass C = some cell.cls :=
  va_recv (ci := ci) (q := (C, T, n)) (q0 := b) (fs := fs.mapIdx (fun i f => xfv (xad Ω) σ b i f)) hK hP hc (xw_get hs)
theorem x_recvS {i : Nat} (hi : i < xlen.length) (A : Nat → Prop) (s : State) (H : Heap) (locs : List Loc) (_ : va_K (xD Ω) vwCl (xtys Ω) s) (_ : va_P (xD Ω) vwCl (xw Ω σ) H) (hE : xE Ω A s s.heap) (hS : va_S A s.heap H locs) : ∃ cell : Cell, H[xad Ω (1000 + i)]? = some cell ∧ cell.vm.isStatics = false ∧ s.vm.findClass RJ0 = some cell.cls :=
  vk_recv (i := i) hE.2.1 hi hS
theorem x_callS0 {n : Nat} {As : List Value} (hd : decode (xcc M) pc = .ok (.invokestatic idx, 3)) (hN : xokS N n) (hlk : Cond.methodLink (xy M).cls idx (xy N) ∈ gt)
    (hn : As.length = n) (hlen : (lg_sl (As.map (xv (xad Ω)))).length ≤ xnL N) (hfit : xfit M N) (hst : (st.map fun v => v.category).sum ≤ 8) (hv : Ev l Ω N As σ Q2)
    (k : ∀ r τ, Q2 r τ → Ex l Ω M (pc + 3) ls (r.toList ++ st) τ Q) : Ex l Ω M pc ls (As.reverse ++ st) σ Q := by
  intro p e s m args below meth c H locs A ls' B hP hD hS hl
  obtain ⟨hx, hb, hr, hml, hown, hts, hlk2, hK, hA, hE⟩ := id B
  have hM := x_met hv hN.1 hlen H.size
  have hsub := xA_sub (sz2 := H.size) hD hA hS.1
  rw [xargs]
  refine x_back (A1 := xA Ω H.size) (va_runS (As := As.map (xv (xad Ω))) (rest := st.map (xv (xad Ω))) (Ts := gt) ⟨hx, hb, hml, hown, hts⟩ hM
    ⟨callB_of n hts (xws_good hN.1) rfl hN.1.2.2.2.2.1 hN.1.2.2.2.2.2 (hts _ hN.1.1) (hts _ hlk) hN.1.2.2.2.1 hfit, hts _ hN.2⟩
    ⟨xPc_blind, fun U hU hW => xPc_at hP hD hS hK hA hE hU hW⟩ rfl (by rw [List.length_map]; exact hn) hl.1 rfl (lv_room (by rw [xcats]; exact hst)) hd ⟨Nat.zero_le _, Nat.zero_le _⟩) hS hsub hsub (fun r τ H1 locs1 hq hP1 hD1 hS1 => ?_)
  rw [xstk]
  exact k r τ hq p e s m args below meth c H1 locs1 A ls' B hP1 (hD1.weaken (fun _ q _ h => hsub q.1 h)) hS1 hl
/-- the one call of a nest mate's private method: Town calls placeOf -/
theorem x_callP {v u : Value} (hM : (xy M).cls = RX3) (hy : xy N = yX4_placeOf) (hi : idx = 43) (hd : decode (xcc M) pc = .ok (.invokestatic idx, 3)) (hN : xokS N 2)
    (hlen : (lg_sl (([v, u] : List Value).map (xv (xad Ω)))).length ≤ xnL N) (hfit : xfit M N) (hst : (st.map fun v => v.category).sum ≤ 8) (hv : Ev l Ω N [v, u] σ Q2)
    (k : ∀ r τ, Q2 r τ → Ex l Ω M (pc + 3) ls (r.toList ++ st) τ Q) : Ex l Ω M pc ls (u :: v :: st) σ Q := by
  intro p e s m args below meth c H locs A ls' B hP hD hS hl
  obtain ⟨hx, hb, hr, hml, hown, hts, hlk2, hK, hA, hE⟩ := id B
  have hMt := x_met hv hN.1 hlen H.size
  have hsub := xA_sub (sz2 := H.size) hD hA hS.1
  have hnw : va_Nw (.methodLinkNest (xy M).cls idx (xy N) RX4) s := by rw [hM, hi, hy]; exact hE.1
  refine x_back (A1 := xA Ω H.size) (va_runSN (As := ([v, u] : List Value).map (xv (xad Ω))) (rest := st.map (xv (xad Ω))) (Ts := gt) ⟨hx, hb, hml, hown, hts⟩ hMt
    ⟨va_cnB 2 hts (xws_good hN.1) rfl hN.1.2.2.2.2.1 hN.1.2.2.2.2.2 hnw (hts _ hN.1.1) hN.1.2.2.2.1 hfit, hts _ hN.2, trivial⟩
    ⟨xPc_blind, fun U hU hW => xPc_at hP hD hS hK hA hE hU hW⟩ rfl rfl hl.1 rfl (lv_room (by rw [xcats]; exact hst)) hd ⟨Nat.zero_le _, Nat.zero_le _⟩) hS hsub hsub (fun r τ H1 locs1 hq hP1 hD1 hS1 => ?_)
  rw [xstk]
  exact k r τ hq p e s m args below meth c H1 locs1 A ls' B hP1 (hD1.weaken (fun _ q _ h => hsub q.1 h)) hS1 hl
theorem x_v0 {b ci n0 : Nat} {fs : List xF} {T : u_T} (hd : decode (xcc M) pc = .ok (.invokevirtual idx, 3)) (hN : xokV N 0) (hlk : Cond.methodLink (xy M).cls idx (xy N) ∈ gt) (hs : (xsh Ω)[b]? = some (.inr (ci, fs))) (hc : vwCl[ci]? = some ((xy N).cls, T, n0)) (hlen : (xarg (.ref b :: [])).length ≤ xnL N) (hfit : xfit M N) (hst : (st.map fun v => v.category).sum ≤ 8) (hv : Ev l Ω N (.ref b :: []) σ Q2) (k : ∀ r τ, Q2 r τ → Ex l Ω M (pc + 3) ls (r.toList ++ st) τ Q) : Ex l Ω M pc ls (.ref b :: st) σ Q :=
  x_callV0 (As := []) hd hN hlk (x_recv hs hc) rfl (xlen_ok _ _ _ hlen) hfit hst hv k
theorem x_v1 {b ci n0 : Nat} {fs : List xF} {T : u_T} {a0 : Value} (hd : decode (xcc M) pc = .ok (.invokevirtual idx, 3)) (hN : xokV N 1) (hlk : Cond.methodLink (xy M).cls idx (xy N) ∈ gt) (hs : (xsh Ω)[b]? = some (.inr (ci, fs))) (hc : vwCl[ci]? = some ((xy N).cls, T, n0)) (hlen : (xarg (.ref b :: [a0])).length ≤ xnL N) (hfit : xfit M N) (hst : (st.map fun v => v.category).sum ≤ 8) (hv : Ev l Ω N (.ref b :: [a0]) σ Q2) (k : ∀ r τ, Q2 r τ → Ex l Ω M (pc + 3) ls (r.toList ++ st) τ Q) : Ex l Ω M pc ls (a0 :: .ref b :: st) σ Q :=
  x_callV0 (As := [a0]) hd hN hlk (x_recv hs hc) rfl (xlen_ok _ _ _ hlen) hfit hst hv k
theorem x_v2 {b ci n0 : Nat} {fs : List xF} {T : u_T} {a0 a1 : Value} (hd : decode (xcc M) pc = .ok (.invokevirtual idx, 3)) (hN : xokV N 2) (hlk : Cond.methodLink (xy M).cls idx (xy N) ∈ gt) (hs : (xsh Ω)[b]? = some (.inr (ci, fs))) (hc : vwCl[ci]? = some ((xy N).cls, T, n0)) (hlen : (xarg (.ref b :: [a0, a1])).length ≤ xnL N) (hfit : xfit M N) (hst : (st.map fun v => v.category).sum ≤ 8) (hv : Ev l Ω N (.ref b :: [a0, a1]) σ Q2) (k : ∀ r τ, Q2 r τ → Ex l Ω M (pc + 3) ls (r.toList ++ st) τ Q) : Ex l Ω M pc ls (a1 :: a0 :: .ref b :: st) σ Q :=
  x_callV0 (As := [a0, a1]) hd hN hlk (x_recv hs hc) rfl (xlen_ok _ _ _ hlen) hfit hst hv k
theorem x_v3 {b ci n0 : Nat} {fs : List xF} {T : u_T} {a0 a1 a2 : Value} (hd : decode (xcc M) pc = .ok (.invokevirtual idx, 3)) (hN : xokV N 3) (hlk : Cond.methodLink (xy M).cls idx (xy N) ∈ gt) (hs : (xsh Ω)[b]? = some (.inr (ci, fs))) (hc : vwCl[ci]? = some ((xy N).cls, T, n0)) (hlen : (xarg (.ref b :: [a0, a1, a2])).length ≤ xnL N) (hfit : xfit M N) (hst : (st.map fun v => v.category).sum ≤ 8) (hv : Ev l Ω N (.ref b :: [a0, a1, a2]) σ Q2) (k : ∀ r τ, Q2 r τ → Ex l Ω M (pc + 3) ls (r.toList ++ st) τ Q) : Ex l Ω M pc ls (a2 :: a1 :: a0 :: .ref b :: st) σ Q :=
  x_callV0 (As := [a0, a1, a2]) hd hN hlk (x_recv hs hc) rfl (xlen_ok _ _ _ hlen) hfit hst hv k
theorem x_v4 {b ci n0 : Nat} {fs : List xF} {T : u_T} {a0 a1 a2 a3 : Value} (hd : decode (xcc M) pc = .ok (.invokevirtual idx, 3)) (hN : xokV N 4) (hlk : Cond.methodLink (xy M).cls idx (xy N) ∈ gt) (hs : (xsh Ω)[b]? = some (.inr (ci, fs))) (hc : vwCl[ci]? = some ((xy N).cls, T, n0)) (hlen : (xarg (.ref b :: [a0, a1, a2, a3])).length ≤ xnL N) (hfit : xfit M N) (hst : (st.map fun v => v.category).sum ≤ 8) (hv : Ev l Ω N (.ref b :: [a0, a1, a2, a3]) σ Q2) (k : ∀ r τ, Q2 r τ → Ex l Ω M (pc + 3) ls (r.toList ++ st) τ Q) : Ex l Ω M pc ls (a3 :: a2 :: a1 :: a0 :: .ref b :: st) σ Q :=
  x_callV0 (As := [a0, a1, a2, a3]) hd hN hlk (x_recv hs hc) rfl (xlen_ok _ _ _ hlen) hfit hst hv k
theorem x_v5 {b ci n0 : Nat} {fs : List xF} {T : u_T} {a0 a1 a2 a3 a4 : Value} (hd : decode (xcc M) pc = .ok (.invokevirtual idx, 3)) (hN : xokV N 5) (hlk : Cond.methodLink (xy M).cls idx (xy N) ∈ gt) (hs : (xsh Ω)[b]? = some (.inr (ci, fs))) (hc : vwCl[ci]? = some ((xy N).cls, T, n0)) (hlen : (xarg (.ref b :: [a0, a1, a2, a3, a4])).length ≤ xnL N) (hfit : xfit M N) (hst : (st.map fun v => v.category).sum ≤ 8) (hv : Ev l Ω N (.ref b :: [a0, a1, a2, a3, a4]) σ Q2) (k : ∀ r τ, Q2 r τ → Ex l Ω M (pc + 3) ls (r.toList ++ st) τ Q) : Ex l Ω M pc ls (a4 :: a3 :: a2 :: a1 :: a0 :: .ref b :: st) σ Q :=
  x_callV0 (As := [a0, a1, a2, a3, a4]) hd hN hlk (x_recv hs hc) rfl (xlen_ok _ _ _ hlen) hfit hst hv k
theorem x_v6 {b ci n0 : Nat} {fs : List xF} {T : u_T} {a0 a1 a2 a3 a4 a5 : Value} (hd : decode (xcc M) pc = .ok (.invokevirtual idx, 3)) (hN : xokV N 6) (hlk : Cond.methodLink (xy M).cls idx (xy N) ∈ gt) (hs : (xsh Ω)[b]? = some (.inr (ci, fs))) (hc : vwCl[ci]? = some ((xy N).cls, T, n0)) (hlen : (xarg (.ref b :: [a0, a1, a2, a3, a4, a5])).length ≤ xnL N) (hfit : xfit M N) (hst : (st.map fun v => v.category).sum ≤ 8) (hv : Ev l Ω N (.ref b :: [a0, a1, a2, a3, a4, a5]) σ Q2) (k : ∀ r τ, Q2 r τ → Ex l Ω M (pc + 3) ls (r.toList ++ st) τ Q) : Ex l Ω M pc ls (a5 :: a4 :: a3 :: a2 :: a1 :: a0 :: .ref b :: st) σ Q :=
  x_callV0 (As := [a0, a1, a2, a3, a4, a5]) hd hN hlk (x_recv hs hc) rfl (xlen_ok _ _ _ hlen) hfit hst hv k
theorem x_s1 {a0 : Value} (hd : decode (xcc M) pc = .ok (.invokestatic idx, 3)) (hN : xokS N 1) (hlk : Cond.methodLink (xy M).cls idx (xy N) ∈ gt) (hlen : (xarg [a0]).length ≤ xnL N) (hfit : xfit M N) (hst : (st.map fun v => v.category).sum ≤ 8) (hv : Ev l Ω N [a0] σ Q2) (k : ∀ r τ, Q2 r τ → Ex l Ω M (pc + 3) ls (r.toList ++ st) τ Q) : Ex l Ω M pc ls (a0 :: st) σ Q :=
  x_callS0 (As := [a0]) hd hN hlk rfl (xlen_ok _ _ _ hlen) hfit hst hv k
theorem x_s2 {a0 a1 : Value} (hd : decode (xcc M) pc = .ok (.invokestatic idx, 3)) (hN : xokS N 2) (hlk : Cond.methodLink (xy M).cls idx (xy N) ∈ gt) (hlen : (xarg [a0, a1]).length ≤ xnL N) (hfit : xfit M N) (hst : (st.map fun v => v.category).sum ≤ 8) (hv : Ev l Ω N [a0, a1] σ Q2) (k : ∀ r τ, Q2 r τ → Ex l Ω M (pc + 3) ls (r.toList ++ st) τ Q) : Ex l Ω M pc ls (a1 :: a0 :: st) σ Q :=
  x_callS0 (As := [a0, a1]) hd hN hlk rfl (xlen_ok _ _ _ hlen) hfit hst hv k
theorem x_s3 {a0 a1 a2 : Value} (hd : decode (xcc M) pc = .ok (.invokestatic idx, 3)) (hN : xokS N 3) (hlk : Cond.methodLink (xy M).cls idx (xy N) ∈ gt) (hlen : (xarg [a0, a1, a2]).length ≤ xnL N) (hfit : xfit M N) (hst : (st.map fun v => v.category).sum ≤ 8) (hv : Ev l Ω N [a0, a1, a2] σ Q2) (k : ∀ r τ, Q2 r τ → Ex l Ω M (pc + 3) ls (r.toList ++ st) τ Q) : Ex l Ω M pc ls (a2 :: a1 :: a0 :: st) σ Q :=
  x_callS0 (As := [a0, a1, a2]) hd hN hlk rfl (xlen_ok _ _ _ hlen) hfit hst hv k
theorem x_s4 {a0 a1 a2 a3 : Value} (hd : decode (xcc M) pc = .ok (.invokestatic idx, 3)) (hN : xokS N 4) (hlk : Cond.methodLink (xy M).cls idx (xy N) ∈ gt) (hlen : (xarg [a0, a1, a2, a3]).length ≤ xnL N) (hfit : xfit M N) (hst : (st.map fun v => v.category).sum ≤ 8) (hv : Ev l Ω N [a0, a1, a2, a3] σ Q2) (k : ∀ r τ, Q2 r τ → Ex l Ω M (pc + 3) ls (r.toList ++ st) τ Q) : Ex l Ω M pc ls (a3 :: a2 :: a1 :: a0 :: st) σ Q :=
  x_callS0 (As := [a0, a1, a2, a3]) hd hN hlk rfl (xlen_ok _ _ _ hlen) hfit hst hv k
theorem x_s5 {a0 a1 a2 a3 a4 : Value} (hd : decode (xcc M) pc = .ok (.invokestatic idx, 3)) (hN : xokS N 5) (hlk : Cond.methodLink (xy M).cls idx (xy N) ∈ gt) (hlen : (xarg [a0, a1, a2, a3, a4]).length ≤ xnL N) (hfit : xfit M N) (hst : (st.map fun v => v.category).sum ≤ 8) (hv : Ev l Ω N [a0, a1, a2, a3, a4] σ Q2) (k : ∀ r τ, Q2 r τ → Ex l Ω M (pc + 3) ls (r.toList ++ st) τ Q) : Ex l Ω M pc ls (a4 :: a3 :: a2 :: a1 :: a0 :: st) σ Q :=
  x_callS0 (As := [a0, a1, a2, a3, a4]) hd hN hlk rfl (xlen_ok _ _ _ hlen) hfit hst hv k
theorem x_s6 {a0 a1 a2 a3 a4 a5 : Value} (hd : decode (xcc M) pc = .ok (.invokestatic idx, 3)) (hN : xokS N 6) (hlk : Cond.methodLink (xy M).cls idx (xy N) ∈ gt) (hlen : (xarg [a0, a1, a2, a3, a4, a5]).length ≤ xnL N) (hfit : xfit M N) (hst : (st.map fun v => v.category).sum ≤ 8) (hv : Ev l Ω N [a0, a1, a2, a3, a4, a5] σ Q2) (k : ∀ r τ, Q2 r τ → Ex l Ω M (pc + 3) ls (r.toList ++ st) τ Q) : Ex l Ω M pc ls (a5 :: a4 :: a3 :: a2 :: a1 :: a0 :: st) σ Q :=
  x_callS0 (As := [a0, a1, a2, a3, a4, a5]) hd hN hlk rfl (xlen_ok _ _ _ hlen) hfit hst hv k
theorem x_acpi {q0 q1 n0 n1 b0 t0 b1 t1 : Nat} {sp dp n : Int32} (hd : decode (xcc M) pc = .ok (.invokestatic idx, 3)) (h1 : Cond.methodLink (xy M).cls idx arraycopyName ∈ gt) (h2 : Cond.native arraycopyName ∈ gt) (h3 : Cond.static arraycopyName ∈ gt) (h4 : Cond.initialized "java/lang/System" ∈ gt) (hs0 : (xsh Ω)[q0]? = some (.inl (0, n0, b0, t0))) (hs1 : (xsh Ω)[q1]? = some (.inl (0, n1, b1, t1))) (g1 : ¬ sp < 0) (g2 : ¬ dp < 0) (g3 : ¬ n < 0) (g4 : sp.toNatClampNeg + n.toNatClampNeg ≤ n0) (g5 : dp.toNatClampNeg + n.toNatClampNeg ≤ n1) (hfr : 1 ≤ (xrm M).frames) (hlo : (st.map fun v => v.category).sum + (nativeFrameWords "java/lang/System" "arraycopy" 5 + 11) ≤ (xrm M).locals)
    (k : Ex l Ω M (pc + 3) ls st (xui σ q1 (va_cpy (σ.1 q0) (σ.1 q1) sp.toNatClampNeg dp.toNatClampNeg n.toNatClampNeg)) Q) : Ex l Ω M pc ls (.int n :: .int dp :: .ref q1 :: .int sp :: .ref q0 :: st) σ Q := by
  intro p e s m args below meth c H locs A ls' B hP hD hS hl
  obtain ⟨hx, hb, hr, hml, hown, hts, hlk2, hK, hA, hE⟩ := id B
  refine va_copyi (ty := .int) hx hb (hml.trans hl.1.symm) hown (hts _ h1) (hts _ h2) (hts _ h3) (hts _ h4) hK hP hD hS q0 q1 0 0 (xw_get hs0) (xw_get hs1) rfl rfl rfl g1 g2 g3 g4 g5 (fun _ _ => rfl) hfr (by rw [xcats]; exact hlo) hd (fun H1 locs1 hP1 hD1 hS1 => ?_)
  have e1 : (xw Ω σ).set q1 (xad Ω q1, .inl (xcy Ω 0, n1, .inl (va_cpy (σ.1 q0) (σ.1 q1) sp.toNatClampNeg dp.toNatClampNeg n.toNatClampNeg))) = xw Ω (xui σ q1 (va_cpy (σ.1 q0) (σ.1 q1) sp.toNatClampNeg dp.toNatClampNeg n.toNatClampNeg)) := by
    have h1 := xw_set (σ := σ) (τ := xui σ q1 (va_cpy (σ.1 q0) (σ.1 q1) sp.toNatClampNeg dp.toNatClampNeg n.toNatClampNeg)) hs1 (xui_ne _ _ _) (fun _ _ => rfl)
    simpa [xce, xui] using h1
  rw [e1] at hP1 hD1
  exact k p e s m args below meth c H1 locs1 A ls' B hP1 hD1 hS1 hl
theorem x_acpl {q0 q1 n0 n1 b0 t0 b1 t1 : Nat} {sp dp n : Int32} (hd : decode (xcc M) pc = .ok (.invokestatic idx, 3)) (h1 : Cond.methodLink (xy M).cls idx arraycopyName ∈ gt) (h2 : Cond.native arraycopyName ∈ gt) (h3 : Cond.static arraycopyName ∈ gt) (h4 : Cond.initialized "java/lang/System" ∈ gt) (hs0 : (xsh Ω)[q0]? = some (.inl (1, n0, b0, t0))) (hs1 : (xsh Ω)[q1]? = some (.inl (1, n1, b1, t1))) (g1 : ¬ sp < 0) (g2 : ¬ dp < 0) (g3 : ¬ n < 0) (g4 : sp.toNatClampNeg + n.toNatClampNeg ≤ n0) (g5 : dp.toNatClampNeg + n.toNatClampNeg ≤ n1) (hfr : 1 ≤ (xrm M).frames) (hlo : (st.map fun v => v.category).sum + (nativeFrameWords "java/lang/System" "arraycopy" 5 + 11) ≤ (xrm M).locals)
    (k : Ex l Ω M (pc + 3) ls st (xul σ q1 (va_cpy (σ.2 q0) (σ.2 q1) sp.toNatClampNeg dp.toNatClampNeg n.toNatClampNeg)) Q) : Ex l Ω M pc ls (.int n :: .int dp :: .ref q1 :: .int sp :: .ref q0 :: st) σ Q := by
  intro p e s m args below meth c H locs A ls' B hP hD hS hl
  obtain ⟨hx, hb, hr, hml, hown, hts, hlk2, hK, hA, hE⟩ := id B
  refine va_copyl (ty := .long) hx hb (hml.trans hl.1.symm) hown (hts _ h1) (hts _ h2) (hts _ h3) (hts _ h4) hK hP hD hS q0 q1 1 1 (xw_get hs0) (xw_get hs1) rfl rfl rfl g1 g2 g3 g4 g5 (fun _ _ => rfl) hfr (by rw [xcats]; exact hlo) hd (fun H1 locs1 hP1 hD1 hS1 => ?_)
  have e1 : (xw Ω σ).set q1 (xad Ω q1, .inl (xcy Ω 1, n1, .inr (.inl (va_cpy (σ.2 q0) (σ.2 q1) sp.toNatClampNeg dp.toNatClampNeg n.toNatClampNeg)))) = xw Ω (xul σ q1 (va_cpy (σ.2 q0) (σ.2 q1) sp.toNatClampNeg dp.toNatClampNeg n.toNatClampNeg)) := by
    have h1 := xw_set (σ := σ) (τ := xul σ q1 (va_cpy (σ.2 q0) (σ.2 q1) sp.toNatClampNeg dp.toNatClampNeg n.toNatClampNeg)) hs1 (fun _ _ => rfl) (xul_ne _ _ _)
    simpa [xce, xul] using h1
  rw [e1] at hP1 hD1
  exact k p e s m args below meth c H1 locs1 A ls' B hP1 hD1 hS1 hl
end XC
