/-! WHAT STANDS OUTSIDE THE WORLD: the texts, two statics, the one link between nest mates -/
def xstr : List (Nat × String) := [(88, "driver"), (90, "bus"), (92, "lorry"), (94, "local"), (96, "ambulance"), (98, "racer"), (74, "wish"), (79, "in"), (100, "clear"), (102, "bump"), (104, "narrow"), (106, "sign"), (108, "paint"), (49, "high")]
def xlen : List Nat := [6, 3, 5, 5, 9, 5, 4, 2, 5, 4, 6, 4, 5, 4]
def xbyt : List (List Int32) := [[100, 114, 105, 118, 101, 114], [98, 117, 115], [108, 111, 114, 114, 121], [108, 111, 99, 97, 108], [97, 109, 98, 117, 108, 97, 110, 99, 101], [114, 97, 99, 101, 114], [119, 105, 115, 104], [105, 110], [99, 108, 101, 97, 114], [98, 117, 109, 112], [110, 97, 114, 114, 111, 119], [115, 105, 103, 110], [112, 97, 105, 110, 116], [104, 105, 103, 104]]
def xZq (Ω : xW) (A : Nat → Prop) (U : State) (H : Heap) : Prop := va_Z RJ3 "SIOOBE_FORMATTER" "Ljava/util/function/BiFunction;" .null A U H ∨ va_Z RJ3 "SIOOBE_FORMATTER" "Ljava/util/function/BiFunction;" (.ref (xad Ω 3000)) A U H
theorem xZq.moved {Ω : xW} {A : Nat → Prop} {u U : State} {H : Heap} (hvm : u.vm.Alike U.vm) (h : xZq Ω A u H) : xZq Ω A U H := h.elim (fun h => Or.inl (h.moved hvm)) (fun h => Or.inr (h.moved hvm))
theorem xZq.kept {Ω : xW} {A : Nat → Prop} {U : State} {H H1 : Heap} (h : xZq Ω A U H) (hq : ∀ a : Nat, a < H.size → ¬ A a → H1[a]? = H[a]?) : xZq Ω A U H1 := h.elim (fun h => Or.inl (h.kept hq)) (fun h => Or.inr (h.kept hq))
theorem xZq.narrow {Ω : xW} {A B : Nat → Prop} {U : State} {H : Heap} (h : xZq Ω A U H) (hAB : ∀ q, B q → A q) : xZq Ω B U H := h.elim (fun h => Or.inl (h.narrow hAB)) (fun h => Or.inr (h.narrow hAB))
def xE (Ω : xW) (A : Nat → Prop) (U : State) (H : Heap) : Prop :=
  va_Nw (.methodLinkNest RX3 43 yX4_placeOf RX4) U ∧ vk_S 14 xlen xbyt (fun i => xad Ω (1000 + i)) (fun i => xad Ω (2000 + i)) A U H ∧ (∀ i q, xstr[i]? = some q → vk_R RX2 q.1 q.2 (xad Ω (1000 + i)) U) ∧ va_Z RJ0 "COMPACT_STRINGS" "Z" (.int 1) A U H ∧ xZq Ω A U H
theorem xE_to {Ω : xW} {A B : Nat → Prop} {s U : State} {H H1 : Heap} (h : xE Ω A s H) (hW : s.WarmedH U.vm) (hq : ∀ a : Nat, a < H.size → ¬ A a → H1[a]? = H[a]?) (hAB : ∀ q, B q → A q) : xE Ω B U H1 :=
  ⟨va_Nw.warmM hW h.1, ((h.2.1.kept hq).moved hW.alike).narrow hAB, fun i q hi => (h.2.2.1 i q hi).warm hW, ((h.2.2.2.1.kept hq).moved hW.alike).narrow hAB, ((h.2.2.2.2.kept hq).moved hW.alike).narrow hAB⟩
theorem xE_same {Ω : xW} {A : Nat → Prop} {s U : State} {H : Heap} (h : xE Ω A s H) (hv : U.vm = s.vm) : xE Ω A U H :=
  ⟨va_Nw.same rfl hv.symm h.1, h.2.1.moved (hv ▸ Vm.Alike.refl _), fun i q hi => (h.2.2.1 i q hi).same hv, h.2.2.2.1.moved (hv ▸ Vm.Alike.refl _), h.2.2.2.2.moved (hv ▸ Vm.Alike.refl _)⟩
/-- a method's end: its answer and the numbers -/
def xQc (Ω : xW) (A : Nat → Prop) (Q : Option Value → xH → Prop) : Array Value → State → Outcome → State → Prop := fun _ st oc t =>
  (∃ (r : Option Value) (σ : xH), oc = .returned (r.map (xv (xad Ω))) ∧ Q r σ ∧ va_P (xD Ω) vwCl (xw Ω σ) t.heap ∧ va_K (xD Ω) vwCl (xtys Ω) t ∧ va_D A (xw Ω σ)) ∧ va_F A st t
/-- what stands fast while a method runs -/
def xB (Ω : xW) (M : xM) (p : Program) (s : State) (m : MethodId) (args : Array Value) (meth : Method) (c : Code) (A : Nat → Prop) : Prop :=
  p.tables.exec = Jvm.exec ∧ c.code = xcc M ∧ meth.sig.returnType = xret M ∧ c.maxLocals = xnL M ∧ s.vm.findClass (xy M).cls = some m.cls ∧ (∀ w ∈ gt, w.before args s = true) ∧ meth.locks = false ∧ va_K (xD Ω) vwCl (xtys Ω) s ∧ (∀ q, s.heap.size ≤ q → A q) ∧ xE Ω A s s.heap
/-- THE RUN of a method from a place on, with locals ls, stack st, numbers σ, ends with Q -/
def Ex (l : Launch) (Ω : xW) (M : xM) (pc : Nat) (ls : List (Option Value)) (st : List Value) (σ : xH) (Q : Option Value → xH → Prop) : Prop :=
  ∀ (p : Program) (e : Env) (s : State) (m : MethodId) (args : Array Value) (below : List Frame) (meth : Method) (c : Code) (H : Heap) (locs : List Loc) (A : Nat → Prop) (ls' : Array Slot),
    xB Ω M p s m args meth c A → va_P (xD Ω) vwCl (xw Ω σ) H → va_D A (xw Ω σ) → va_S A s.heap H locs → lv_has ls' (xnL M) (xLoc (xad Ω) 0 ls) →
    W p l e (xrm M) s m args below meth c H locs 0 0 (MQ below (xQc Ω A Q) args s 0 0 A) (F0 m pc ls' (st.map (xv (xad Ω))))
/-- a method's whole run -/
def Ev (l : Launch) (Ω : xW) (M : xM) (as : List Value) (σ : xH) (Q : Option Value → xH → Prop) : Prop := Ex l Ω M 0 (xent as (xnL M)) [] σ Q
theorem x_enter {l : Launch} {Ω : xW} {M : xM} {as : List Value} {σ : xH} {Q : Option Value → xH → Prop} {ls : List (Option Value)} (h : xent as (xnL M) = ls) (k : Ex l Ω M 0 ls [] σ Q) : Ev l Ω M as σ Q := by subst h; exact k
theorem x_eq {l : Launch} {Ω : xW} {M : xM} {pc pc' : Nat} {ls ls' : List (Option Value)} {st st' : List Value} {σ σ' : xH} {Q : Option Value → xH → Prop} (h1 : pc = pc') (h2 : ls = ls') (h3 : st = st') (h4 : σ = σ') (k : Ex l Ω M pc' ls' st' σ' Q) : Ex l Ω M pc ls st σ Q := by subst h1 h2 h3 h4; exact k
theorem x_mono {l : Launch} {Ω : xW} {M : xM} {pc : Nat} {ls : List (Option Value)} {st : List Value} {σ : xH} {Q Q' : Option Value → xH → Prop} (h : Ex l Ω M pc ls st σ Q) (hq : ∀ r τ, Q r τ → Q' r τ) : Ex l Ω M pc ls st σ Q' := by
  intro p e s m args below meth c H locs A ls' B hP hD hS hl T hT X
  obtain ⟨t, a, oc, b1, b2, ⟨⟨r, τ, c1, c2, c3⟩, c4⟩, b4⟩ := h p e s m args below meth c H locs A ls' B hP hD hS hl T hT X
  exact ⟨t, a, oc, b1, b2, ⟨⟨r, τ, c1, hq r τ c2, c3⟩, c4⟩, b4⟩
theorem v_mono {l : Launch} {Ω : xW} {M : xM} {as : List Value} {σ : xH} {Q Q' : Option Value → xH → Prop} (h : Ev l Ω M as σ Q) (hq : ∀ r τ, Q r τ → Q' r τ) : Ev l Ω M as σ Q' := x_mono h hq
theorem xcats (ad : Nat → Nat) (st : List Value) : ((st.map (xv ad)).map fun v => v.category).sum = (st.map fun v => v.category).sum := by
  congr 1
  rw [List.map_map]
  exact List.map_congr_left (fun v _ => xv_cat ad v)
section XR
variable {l : Launch} {Ω : xW} {M : xM} {pc : Nat} {ls : List (Option Value)} {st : List Value} {σ : xH} {Q : Option Value → xH → Prop}
theorem x_iconst {n : Int} {v : Int32} (hd : decode (xcc M) pc = .ok (.iconst n, 1)) (hv : Int32.ofInt n = v) (k : Ex l Ω M (pc + 1) ls (.int v :: st) σ Q) : Ex l Ω M pc ls (st) σ Q := by
  intro p e s m args below meth c H locs A ls' B hP hD hS hl
  obtain ⟨hx, hb, hr, hml, hown, hts, hlocks, hK, hA, hE⟩ := id B
  exact lv_iconst hx hb hd hv (k p e s m args below meth c H locs A ls' B hP hD hS hl)
theorem x_bipush {n : Int} {v : Int32} (hd : decode (xcc M) pc = .ok (.bipush n, 2)) (hv : (Int8.ofInt n).toInt32 = v) (k : Ex l Ω M (pc + 2) ls (.int v :: st) σ Q) : Ex l Ω M pc ls (st) σ Q := by
  intro p e s m args below meth c H locs A ls' B hP hD hS hl
  obtain ⟨hx, hb, hr, hml, hown, hts, hlocks, hK, hA, hE⟩ := id B
  exact lv_bipush hx hb hd hv (k p e s m args below meth c H locs A ls' B hP hD hS hl)
theorem x_sipush {n : Int} {v : Int32} (hd : decode (xcc M) pc = .ok (.sipush n, 3)) (hv : (Int16.ofInt n).toInt32 = v) (k : Ex l Ω M (pc + 3) ls (.int v :: st) σ Q) : Ex l Ω M pc ls (st) σ Q := by
  intro p e s m args below meth c H locs A ls' B hP hD hS hl
  obtain ⟨hx, hb, hr, hml, hown, hts, hlocks, hK, hA, hE⟩ := id B
  exact lv_sipush hx hb hd hv (k p e s m args below meth c H locs A ls' B hP hD hS hl)
theorem x_lconst {n : Fin 2} {v : Int64} (hd : decode (xcc M) pc = .ok (.lconst n, 1)) (hv : Int64.ofNat (n : Nat) = v) (k : Ex l Ω M (pc + 1) ls (.long v :: st) σ Q) : Ex l Ω M pc ls (st) σ Q := by
  intro p e s m args below meth c H locs A ls' B hP hD hS hl
  obtain ⟨hx, hb, hr, hml, hown, hts, hlocks, hK, hA, hE⟩ := id B
  exact lv_lconst hx hb hd hv (k p e s m args below meth c H locs A ls' B hP hD hS hl)
theorem x_ldc {i : Nat} {v : Int32} (hd : decode (xcc M) pc = .ok (.ldc i, 2)) (hv : Cond.constant (xy M).cls i v ∈ gt) (k : Ex l Ω M (pc + 2) ls (.int v :: st) σ Q) : Ex l Ω M pc ls (st) σ Q := by
  intro p e s m args below meth c H locs A ls' B hP hD hS hl
  obtain ⟨hx, hb, hr, hml, hown, hts, hlocks, hK, hA, hE⟩ := id B
  exact lv_ldc hx hb hown (hts _ hv) hd (k p e s m args below meth c H locs A ls' B hP hD hS hl)
theorem x_ldc2 {i : Nat} {v : Int64} (hd : decode (xcc M) pc = .ok (.ldc2_w i, 3)) (hv : Cond.constantLong (xy M).cls i v ∈ gt) (k : Ex l Ω M (pc + 3) ls (.long v :: st) σ Q) : Ex l Ω M pc ls (st) σ Q := by
  intro p e s m args below meth c H locs A ls' B hP hD hS hl
  obtain ⟨hx, hb, hr, hml, hown, hts, hlocks, hK, hA, hE⟩ := id B
  exact lv_ldc2 hx hb hown (hts _ hv) hd (k p e s m args below meth c H locs A ls' B hP hD hS hl)
theorem x_ldcs {i : Nat} {q : Nat × String} (hc : (xy M).cls = RX2) (hi : xstr[i]? = some q) (hd : decode (xcc M) pc = .ok (.ldc q.1, 2)) (k : Ex l Ω M (pc + 2) ls (.ref (1000 + i) :: st) σ Q) : Ex l Ω M pc ls (st) σ Q := by
  intro p e s m args below meth c H locs A ls' B hP hD hS hl
  obtain ⟨hx, hb, hr, hml, hown, hts, hlocks, hK, hA, hE⟩ := id B
  exact va_ldcS hx hb (hc ▸ hown) (hE.2.2.1 i q hi) hd (k p e s m args below meth c H locs A ls' B hP hD hS hl)
theorem x_iload_n {j : Fin 4} {i : Nat} {x : Int32} (hd : decode (xcc M) pc = .ok (.iload_n j, 1)) (hi : (j : Nat) = i) (hv : ls[i]? = some (some (.int x))) (k : Ex l Ω M (pc + 1) ls (.int x :: st) σ Q) : Ex l Ω M pc ls (st) σ Q := by
  intro p e s m args below meth c H locs A ls' B hP hD hS hl
  obtain ⟨hx, hb, hr, hml, hown, hts, hlocks, hK, hA, hE⟩ := id B
  exact lv_iload_n hx hb hd hi (xat hl hv) (k p e s m args below meth c H locs A ls' B hP hD hS hl)
theorem x_iload {i : Nat} {x : Int32} (hd : decode (xcc M) pc = .ok (.iload i, 2)) (hv : ls[i]? = some (some (.int x))) (k : Ex l Ω M (pc + 2) ls (.int x :: st) σ Q) : Ex l Ω M pc ls (st) σ Q := by
  intro p e s m args below meth c H locs A ls' B hP hD hS hl
  obtain ⟨hx, hb, hr, hml, hown, hts, hlocks, hK, hA, hE⟩ := id B
  exact lv_iload hx hb hd (xat hl hv) (k p e s m args below meth c H locs A ls' B hP hD hS hl)
theorem x_lload_n {j : Fin 4} {i : Nat} {x : Int64} (hd : decode (xcc M) pc = .ok (.lload_n j, 1)) (hi : (j : Nat) = i) (hv : ls[i]? = some (some (.long x))) (k : Ex l Ω M (pc + 1) ls (.long x :: st) σ Q) : Ex l Ω M pc ls (st) σ Q := by
  intro p e s m args below meth c H locs A ls' B hP hD hS hl
  obtain ⟨hx, hb, hr, hml, hown, hts, hlocks, hK, hA, hE⟩ := id B
  exact lv_lload_n hx hb hd hi (xat hl hv) (k p e s m args below meth c H locs A ls' B hP hD hS hl)
theorem x_lload {i : Nat} {x : Int64} (hd : decode (xcc M) pc = .ok (.lload i, 2)) (hv : ls[i]? = some (some (.long x))) (k : Ex l Ω M (pc + 2) ls (.long x :: st) σ Q) : Ex l Ω M pc ls (st) σ Q := by
  intro p e s m args below meth c H locs A ls' B hP hD hS hl
  obtain ⟨hx, hb, hr, hml, hown, hts, hlocks, hK, hA, hE⟩ := id B
  exact lv_lload hx hb hd (xat hl hv) (k p e s m args below meth c H locs A ls' B hP hD hS hl)
theorem x_aload_n {j : Fin 4} {i : Nat} {x : Nat} (hd : decode (xcc M) pc = .ok (.aload_n j, 1)) (hi : (j : Nat) = i) (hv : ls[i]? = some (some (.ref x))) (k : Ex l Ω M (pc + 1) ls (.ref x :: st) σ Q) : Ex l Ω M pc ls (st) σ Q := by
  intro p e s m args below meth c H locs A ls' B hP hD hS hl
  obtain ⟨hx, hb, hr, hml, hown, hts, hlocks, hK, hA, hE⟩ := id B
  exact lv_aload_n hx hb hd hi (xat hl hv) (k p e s m args below meth c H locs A ls' B hP hD hS hl)
theorem x_aload {i : Nat} {x : Nat} (hd : decode (xcc M) pc = .ok (.aload i, 2)) (hv : ls[i]? = some (some (.ref x))) (k : Ex l Ω M (pc + 2) ls (.ref x :: st) σ Q) : Ex l Ω M pc ls (st) σ Q := by
  intro p e s m args below meth c H locs A ls' B hP hD hS hl
  obtain ⟨hx, hb, hr, hml, hown, hts, hlocks, hK, hA, hE⟩ := id B
  exact lv_aload hx hb hd (xat hl hv) (k p e s m args below meth c H locs A ls' B hP hD hS hl)
theorem x_istore_n {j : Fin 4} {i : Nat} {x : Int32} {ls2 : List (Option Value)} (hd : decode (xcc M) pc = .ok (.istore_n j, 1)) (hi : (j : Nat) = i) (hn : i < xnL M) (hs : xs1 (.int x) i ls = ls2) (k : Ex l Ω M (pc + 1) ls2 st σ Q) : Ex l Ω M pc ls (.int x :: st) σ Q := by
  intro p e s m args below meth c H locs A ls' B hP hD hS hl
  obtain ⟨hx, hb, hr, hml, hown, hts, hlocks, hK, hA, hE⟩ := id B
  exact lv_istore_n hx hb hd hi hl hn rfl (fun ls2 h2 => k p e s m args below meth c H locs A ls2 B hP hD hS (hs ▸ xhas1 (v := .int x) h2))
theorem x_istore {i : Nat} {x : Int32} {ls2 : List (Option Value)} (hd : decode (xcc M) pc = .ok (.istore i, 2)) (hn : i < xnL M) (hs : xs1 (.int x) i ls = ls2) (k : Ex l Ω M (pc + 2) ls2 st σ Q) : Ex l Ω M pc ls (.int x :: st) σ Q := by
  intro p e s m args below meth c H locs A ls' B hP hD hS hl
  obtain ⟨hx, hb, hr, hml, hown, hts, hlocks, hK, hA, hE⟩ := id B
  exact lv_istore hx hb hd hl hn rfl (fun ls2 h2 => k p e s m args below meth c H locs A ls2 B hP hD hS (hs ▸ xhas1 (v := .int x) h2))
theorem x_lstore_n {j : Fin 4} {i : Nat} {x : Int64} {ls2 : List (Option Value)} (hd : decode (xcc M) pc = .ok (.lstore_n j, 1)) (hi : (j : Nat) = i) (hn : i + 1 < xnL M) (hs : xs2 (.long x) i ls = ls2) (k : Ex l Ω M (pc + 1) ls2 st σ Q) : Ex l Ω M pc ls (.long x :: st) σ Q := by
  intro p e s m args below meth c H locs A ls' B hP hD hS hl
  obtain ⟨hx, hb, hr, hml, hown, hts, hlocks, hK, hA, hE⟩ := id B
  exact lv_lstore_n hx hb hd hi hl hn rfl (fun ls2 h2 => k p e s m args below meth c H locs A ls2 B hP hD hS (hs ▸ xhas2 (v := .long x) h2))
theorem x_lstore {i : Nat} {x : Int64} {ls2 : List (Option Value)} (hd : decode (xcc M) pc = .ok (.lstore i, 2)) (hn : i + 1 < xnL M) (hs : xs2 (.long x) i ls = ls2) (k : Ex l Ω M (pc + 2) ls2 st σ Q) : Ex l Ω M pc ls (.long x :: st) σ Q := by
  intro p e s m args below meth c H locs A ls' B hP hD hS hl
  obtain ⟨hx, hb, hr, hml, hown, hts, hlocks, hK, hA, hE⟩ := id B
  exact lv_lstore hx hb hd hl hn rfl (fun ls2 h2 => k p e s m args below meth c H locs A ls2 B hP hD hS (hs ▸ xhas2 (v := .long x) h2))
theorem x_astore_n {j : Fin 4} {i : Nat} {x : Nat} {ls2 : List (Option Value)} (hd : decode (xcc M) pc = .ok (.astore_n j, 1)) (hi : (j : Nat) = i) (hn : i < xnL M) (hs : xs1 (.ref x) i ls = ls2) (k : Ex l Ω M (pc + 1) ls2 st σ Q) : Ex l Ω M pc ls (.ref x :: st) σ Q := by
  intro p e s m args below meth c H locs A ls' B hP hD hS hl
  obtain ⟨hx, hb, hr, hml, hown, hts, hlocks, hK, hA, hE⟩ := id B
  exact lv_astore_n hx hb hd hi hl hn rfl (fun ls2 h2 => k p e s m args below meth c H locs A ls2 B hP hD hS (hs ▸ xhas1 (v := .ref x) h2))
theorem x_astore {i : Nat} {x : Nat} {ls2 : List (Option Value)} (hd : decode (xcc M) pc = .ok (.astore i, 2)) (hn : i < xnL M) (hs : xs1 (.ref x) i ls = ls2) (k : Ex l Ω M (pc + 2) ls2 st σ Q) : Ex l Ω M pc ls (.ref x :: st) σ Q := by
  intro p e s m args below meth c H locs A ls' B hP hD hS hl
  obtain ⟨hx, hb, hr, hml, hown, hts, hlocks, hK, hA, hE⟩ := id B
  exact lv_astore hx hb hd hl hn rfl (fun ls2 h2 => k p e s m args below meth c H locs A ls2 B hP hD hS (hs ▸ xhas1 (v := .ref x) h2))
theorem x_iinc {i : Nat} {n : Int} {x v : Int32} {ls2 : List (Option Value)} (hd : decode (xcc M) pc = .ok (.iinc i n, 3)) (hv : ls[i]? = some (some (.int x))) (he : x + Int32.ofInt n = v) (hn : i < xnL M) (hs : xs1 (.int v) i ls = ls2) (k : Ex l Ω M (pc + 3) ls2 st σ Q) : Ex l Ω M pc ls st σ Q := by
  intro p e s m args below meth c H locs A ls' B hP hD hS hl
  obtain ⟨hx, hb, hr, hml, hown, hts, hlocks, hK, hA, hE⟩ := id B
  obtain ⟨j, hj⟩ := List.getElem?_of_mem (xLoc_at (ad := xad Ω) ls 0 i (.int x) hv)
  rw [Nat.zero_add] at hj
  exact lv_iinc (k := j) hx hb hd hl hj he hn rfl (fun ls2 h2 => k p e s m args below meth c H locs A ls2 B hP hD hS (hs ▸ xhas1 (v := .int v) h2))
theorem x_iadd {x y : Int32} (hd : decode (xcc M) pc = .ok (.iadd, 1)) (k : Ex l Ω M (pc + 1) ls (.int (x + y) :: st) σ Q) : Ex l Ω M pc ls (.int y :: .int x :: st) σ Q := by
  intro p e s m args below meth c H locs A ls' B hP hD hS hl
  obtain ⟨hx, hb, hr, hml, hown, hts, hlocks, hK, hA, hE⟩ := id B
  exact lv_iadd hx hb hd (k p e s m args below meth c H locs A ls' B hP hD hS hl)
theorem x_isub {x y : Int32} (hd : decode (xcc M) pc = .ok (.isub, 1)) (k : Ex l Ω M (pc + 1) ls (.int (x - y) :: st) σ Q) : Ex l Ω M pc ls (.int y :: .int x :: st) σ Q := by
  intro p e s m args below meth c H locs A ls' B hP hD hS hl
  obtain ⟨hx, hb, hr, hml, hown, hts, hlocks, hK, hA, hE⟩ := id B
  exact lv_isub hx hb hd (k p e s m args below meth c H locs A ls' B hP hD hS hl)
theorem x_imul {x y : Int32} (hd : decode (xcc M) pc = .ok (.imul, 1)) (k : Ex l Ω M (pc + 1) ls (.int (x * y) :: st) σ Q) : Ex l Ω M pc ls (.int y :: .int x :: st) σ Q := by
  intro p e s m args below meth c H locs A ls' B hP hD hS hl
  obtain ⟨hx, hb, hr, hml, hown, hts, hlocks, hK, hA, hE⟩ := id B
  exact lv_imul hx hb hd (k p e s m args below meth c H locs A ls' B hP hD hS hl)
theorem x_iand {x y : Int32} (hd : decode (xcc M) pc = .ok (.iand, 1)) (k : Ex l Ω M (pc + 1) ls (.int (x &&& y) :: st) σ Q) : Ex l Ω M pc ls (.int y :: .int x :: st) σ Q := by
  intro p e s m args below meth c H locs A ls' B hP hD hS hl
  obtain ⟨hx, hb, hr, hml, hown, hts, hlocks, hK, hA, hE⟩ := id B
  exact lv_iand hx hb hd (k p e s m args below meth c H locs A ls' B hP hD hS hl)
theorem x_ior {x y : Int32} (hd : decode (xcc M) pc = .ok (.ior, 1)) (k : Ex l Ω M (pc + 1) ls (.int (x ||| y) :: st) σ Q) : Ex l Ω M pc ls (.int y :: .int x :: st) σ Q := by
  intro p e s m args below meth c H locs A ls' B hP hD hS hl
  obtain ⟨hx, hb, hr, hml, hown, hts, hlocks, hK, hA, hE⟩ := id B
  exact lv_ior hx hb hd (k p e s m args below meth c H locs A ls' B hP hD hS hl)
theorem x_ishl {x y : Int32} (hd : decode (xcc M) pc = .ok (.ishl, 1)) (k : Ex l Ω M (pc + 1) ls (.int (x <<< (y &&& 31)) :: st) σ Q) : Ex l Ω M pc ls (.int y :: .int x :: st) σ Q := by
  intro p e s m args below meth c H locs A ls' B hP hD hS hl
  obtain ⟨hx, hb, hr, hml, hown, hts, hlocks, hK, hA, hE⟩ := id B
  exact lv_ishl hx hb hd (k p e s m args below meth c H locs A ls' B hP hD hS hl)
theorem x_ishr {x y : Int32} (hd : decode (xcc M) pc = .ok (.ishr, 1)) (k : Ex l Ω M (pc + 1) ls (.int (x >>> (y &&& 31)) :: st) σ Q) : Ex l Ω M pc ls (.int y :: .int x :: st) σ Q := by
  intro p e s m args below meth c H locs A ls' B hP hD hS hl
  obtain ⟨hx, hb, hr, hml, hown, hts, hlocks, hK, hA, hE⟩ := id B
  exact lv_ishr hx hb hd (k p e s m args below meth c H locs A ls' B hP hD hS hl)
theorem x_iushr {x y : Int32} (hd : decode (xcc M) pc = .ok (.iushr, 1)) (k : Ex l Ω M (pc + 1) ls (.int ((x.toUInt32 >>> (y.toUInt32 &&& Int32.toUInt32 31)).toInt32) :: st) σ Q) : Ex l Ω M pc ls (.int y :: .int x :: st) σ Q := by
  intro p e s m args below meth c H locs A ls' B hP hD hS hl
  obtain ⟨hx, hb, hr, hml, hown, hts, hlocks, hK, hA, hE⟩ := id B
  exact lv_iushr hx hb hd rfl (k p e s m args below meth c H locs A ls' B hP hD hS hl)
theorem x_idiv {x y : Int32} (hd : decode (xcc M) pc = .ok (.idiv, 1)) (hne : ¬ y = 0) (k : Ex l Ω M (pc + 1) ls (.int (x / y) :: st) σ Q) : Ex l Ω M pc ls (.int y :: .int x :: st) σ Q := by
  intro p e s m args below meth c H locs A ls' B hP hD hS hl
  obtain ⟨hx, hb, hr, hml, hown, hts, hlocks, hK, hA, hE⟩ := id B
  exact lv_idiv hx hb hd hne (k p e s m args below meth c H locs A ls' B hP hD hS hl)
theorem x_ladd {x y : Int64} (hd : decode (xcc M) pc = .ok (.ladd, 1)) (k : Ex l Ω M (pc + 1) ls (.long (x + y) :: st) σ Q) : Ex l Ω M pc ls (.long y :: .long x :: st) σ Q := by
  intro p e s m args below meth c H locs A ls' B hP hD hS hl
  obtain ⟨hx, hb, hr, hml, hown, hts, hlocks, hK, hA, hE⟩ := id B
  exact lv_ladd hx hb hd (k p e s m args below meth c H locs A ls' B hP hD hS hl)
theorem x_lsub {x y : Int64} (hd : decode (xcc M) pc = .ok (.lsub, 1)) (k : Ex l Ω M (pc + 1) ls (.long (x - y) :: st) σ Q) : Ex l Ω M pc ls (.long y :: .long x :: st) σ Q := by
  intro p e s m args below meth c H locs A ls' B hP hD hS hl
  obtain ⟨hx, hb, hr, hml, hown, hts, hlocks, hK, hA, hE⟩ := id B
  exact lv_lsub hx hb hd (k p e s m args below meth c H locs A ls' B hP hD hS hl)
theorem x_lmul {x y : Int64} (hd : decode (xcc M) pc = .ok (.lmul, 1)) (k : Ex l Ω M (pc + 1) ls (.long (x * y) :: st) σ Q) : Ex l Ω M pc ls (.long y :: .long x :: st) σ Q := by
  intro p e s m args below meth c H locs A ls' B hP hD hS hl
  obtain ⟨hx, hb, hr, hml, hown, hts, hlocks, hK, hA, hE⟩ := id B
  exact lv_lmul hx hb hd (k p e s m args below meth c H locs A ls' B hP hD hS hl)
theorem x_land {x y : Int64} (hd : decode (xcc M) pc = .ok (.land, 1)) (k : Ex l Ω M (pc + 1) ls (.long (x &&& y) :: st) σ Q) : Ex l Ω M pc ls (.long y :: .long x :: st) σ Q := by
  intro p e s m args below meth c H locs A ls' B hP hD hS hl
  obtain ⟨hx, hb, hr, hml, hown, hts, hlocks, hK, hA, hE⟩ := id B
  exact lv_land hx hb hd (k p e s m args below meth c H locs A ls' B hP hD hS hl)
theorem x_lor {x y : Int64} (hd : decode (xcc M) pc = .ok (.lor, 1)) (k : Ex l Ω M (pc + 1) ls (.long (x ||| y) :: st) σ Q) : Ex l Ω M pc ls (.long y :: .long x :: st) σ Q := by
  intro p e s m args below meth c H locs A ls' B hP hD hS hl
  obtain ⟨hx, hb, hr, hml, hown, hts, hlocks, hK, hA, hE⟩ := id B
  exact lv_lor hx hb hd (k p e s m args below meth c H locs A ls' B hP hD hS hl)
theorem x_lcmp {x y : Int64} (hd : decode (xcc M) pc = .ok (.lcmp, 1)) (k : Ex l Ω M (pc + 1) ls (.int (lg_cmp x y) :: st) σ Q) : Ex l Ω M pc ls (.long y :: .long x :: st) σ Q := by
  intro p e s m args below meth c H locs A ls' B hP hD hS hl
  obtain ⟨hx, hb, hr, hml, hown, hts, hlocks, hK, hA, hE⟩ := id B
  exact W.lcmp hx hb hd (k p e s m args below meth c H locs A ls' B hP hD hS hl)
theorem x_i2l {x : Int32} (hd : decode (xcc M) pc = .ok (.i2l, 1)) (k : Ex l Ω M (pc + 1) ls (.long x.toInt64 :: st) σ Q) : Ex l Ω M pc ls (.int x :: st) σ Q := by
  intro p e s m args below meth c H locs A ls' B hP hD hS hl
  obtain ⟨hx, hb, hr, hml, hown, hts, hlocks, hK, hA, hE⟩ := id B
  exact lv_i2l hx hb hd rfl (k p e s m args below meth c H locs A ls' B hP hD hS hl)
theorem x_l2i {x : Int64} (hd : decode (xcc M) pc = .ok (.l2i, 1)) (k : Ex l Ω M (pc + 1) ls (.int x.toInt32 :: st) σ Q) : Ex l Ω M pc ls (.long x :: st) σ Q := by
  intro p e s m args below meth c H locs A ls' B hP hD hS hl
  obtain ⟨hx, hb, hr, hml, hown, hts, hlocks, hK, hA, hE⟩ := id B
  exact lv_l2i hx hb hd rfl (k p e s m args below meth c H locs A ls' B hP hD hS hl)
theorem x_i2b {x : Int32} (hd : decode (xcc M) pc = .ok (.i2b, 1)) (k : Ex l Ω M (pc + 1) ls (.int x.toInt8.toInt32 :: st) σ Q) : Ex l Ω M pc ls (.int x :: st) σ Q := by
  intro p e s m args below meth c H locs A ls' B hP hD hS hl
  obtain ⟨hx, hb, hr, hml, hown, hts, hlocks, hK, hA, hE⟩ := id B
  exact lv_i2b hx hb hd rfl (k p e s m args below meth c H locs A ls' B hP hD hS hl)
theorem x_i2s {x : Int32} (hd : decode (xcc M) pc = .ok (.i2s, 1)) (k : Ex l Ω M (pc + 1) ls (.int x.toInt16.toInt32 :: st) σ Q) : Ex l Ω M pc ls (.int x :: st) σ Q := by
  intro p e s m args below meth c H locs A ls' B hP hD hS hl
  obtain ⟨hx, hb, hr, hml, hown, hts, hlocks, hK, hA, hE⟩ := id B
  exact lv_i2s hx hb hd rfl (k p e s m args below meth c H locs A ls' B hP hD hS hl)
theorem x_dup {v : Value} (hd : decode (xcc M) pc = .ok (.dup, 1)) (hc : v.category = 1) (k : Ex l Ω M (pc + 1) ls (v :: v :: st) σ Q) : Ex l Ω M pc ls (v :: st) σ Q := by
  intro p e s m args below meth c H locs A ls' B hP hD hS hl
  obtain ⟨hx, hb, hr, hml, hown, hts, hlocks, hK, hA, hE⟩ := id B
  exact lv_dup hx hb hd ((xv_cat _ _).trans hc) (k p e s m args below meth c H locs A ls' B hP hD hS hl)
theorem x_dup2 {v u : Value} (hd : decode (xcc M) pc = .ok (.dup2, 1)) (hc : v.category = 1) (hc2 : u.category = 1) (k : Ex l Ω M (pc + 1) ls (v :: u :: v :: u :: st) σ Q) : Ex l Ω M pc ls (v :: u :: st) σ Q := by
  intro p e s m args below meth c H locs A ls' B hP hD hS hl
  obtain ⟨hx, hb, hr, hml, hown, hts, hlocks, hK, hA, hE⟩ := id B
  exact lv_dup2_11 hx hb hd ((xv_cat _ _).trans hc) ((xv_cat _ _).trans hc2) (k p e s m args below meth c H locs A ls' B hP hD hS hl)
theorem x_pop {v : Value} (hd : decode (xcc M) pc = .ok (.pop, 1)) (hc : v.category = 1) (k : Ex l Ω M (pc + 1) ls st σ Q) : Ex l Ω M pc ls (v :: st) σ Q := by
  intro p e s m args below meth c H locs A ls' B hP hD hS hl
  obtain ⟨hx, hb, hr, hml, hown, hts, hlocks, hK, hA, hE⟩ := id B
  exact lv_pop hx hb hd ((xv_cat _ _).trans hc) (k p e s m args below meth c H locs A ls' B hP hD hS hl)
theorem x_ifeq {x : Int32} {off : Int} {tgt : Nat} (hd : decode (xcc M) pc = .ok (.ifCond .eq off, 3)) (ht : (pc : Int) + off = (tgt : Int)) (kt : x = 0 → Ex l Ω M tgt ls st σ Q) (kf : ¬ x = 0 → Ex l Ω M (pc + 3) ls st σ Q) : Ex l Ω M pc ls (.int x :: st) σ Q := by
  intro p e s m args below meth c H locs A ls' B hP hD hS hl
  obtain ⟨hx, hb, hr, hml, hown, hts, hlocks, hK, hA, hE⟩ := id B
  exact lv_if_eq hx hb hd ht (fun h => kt h p e s m args below meth c H locs A ls' B hP hD hS hl) (fun h => kf h p e s m args below meth c H locs A ls' B hP hD hS hl)
theorem x_ifne {x : Int32} {off : Int} {tgt : Nat} (hd : decode (xcc M) pc = .ok (.ifCond .ne off, 3)) (ht : (pc : Int) + off = (tgt : Int)) (kt : ¬ x = 0 → Ex l Ω M tgt ls st σ Q) (kf : x = 0 → Ex l Ω M (pc + 3) ls st σ Q) : Ex l Ω M pc ls (.int x :: st) σ Q := by
  intro p e s m args below meth c H locs A ls' B hP hD hS hl
  obtain ⟨hx, hb, hr, hml, hown, hts, hlocks, hK, hA, hE⟩ := id B
  exact lv_if_ne hx hb hd ht (fun h => kt h p e s m args below meth c H locs A ls' B hP hD hS hl) (fun h => kf h p e s m args below meth c H locs A ls' B hP hD hS hl)
theorem x_iflt {x : Int32} {off : Int} {tgt : Nat} (hd : decode (xcc M) pc = .ok (.ifCond .lt off, 3)) (ht : (pc : Int) + off = (tgt : Int)) (kt : x < 0 → Ex l Ω M tgt ls st σ Q) (kf : ¬ x < 0 → Ex l Ω M (pc + 3) ls st σ Q) : Ex l Ω M pc ls (.int x :: st) σ Q := by
  intro p e s m args below meth c H locs A ls' B hP hD hS hl
  obtain ⟨hx, hb, hr, hml, hown, hts, hlocks, hK, hA, hE⟩ := id B
  exact lv_if_lt hx hb hd ht (fun h => kt h p e s m args below meth c H locs A ls' B hP hD hS hl) (fun h => kf h p e s m args below meth c H locs A ls' B hP hD hS hl)
theorem x_ifge {x : Int32} {off : Int} {tgt : Nat} (hd : decode (xcc M) pc = .ok (.ifCond .ge off, 3)) (ht : (pc : Int) + off = (tgt : Int)) (kt : 0 ≤ x → Ex l Ω M tgt ls st σ Q) (kf : ¬ 0 ≤ x → Ex l Ω M (pc + 3) ls st σ Q) : Ex l Ω M pc ls (.int x :: st) σ Q := by
  intro p e s m args below meth c H locs A ls' B hP hD hS hl
  obtain ⟨hx, hb, hr, hml, hown, hts, hlocks, hK, hA, hE⟩ := id B
  exact lv_if_ge hx hb hd ht (fun h => kt h p e s m args below meth c H locs A ls' B hP hD hS hl) (fun h => kf h p e s m args below meth c H locs A ls' B hP hD hS hl)
theorem x_ifgt {x : Int32} {off : Int} {tgt : Nat} (hd : decode (xcc M) pc = .ok (.ifCond .gt off, 3)) (ht : (pc : Int) + off = (tgt : Int)) (kt : 0 < x → Ex l Ω M tgt ls st σ Q) (kf : ¬ 0 < x → Ex l Ω M (pc + 3) ls st σ Q) : Ex l Ω M pc ls (.int x :: st) σ Q := by
  intro p e s m args below meth c H locs A ls' B hP hD hS hl
  obtain ⟨hx, hb, hr, hml, hown, hts, hlocks, hK, hA, hE⟩ := id B
  exact lv_if_gt hx hb hd ht (fun h => kt h p e s m args below meth c H locs A ls' B hP hD hS hl) (fun h => kf h p e s m args below meth c H locs A ls' B hP hD hS hl)
theorem x_ifle {x : Int32} {off : Int} {tgt : Nat} (hd : decode (xcc M) pc = .ok (.ifCond .le off, 3)) (ht : (pc : Int) + off = (tgt : Int)) (kt : x ≤ 0 → Ex l Ω M tgt ls st σ Q) (kf : ¬ x ≤ 0 → Ex l Ω M (pc + 3) ls st σ Q) : Ex l Ω M pc ls (.int x :: st) σ Q := by
  intro p e s m args below meth c H locs A ls' B hP hD hS hl
  obtain ⟨hx, hb, hr, hml, hown, hts, hlocks, hK, hA, hE⟩ := id B
  exact lv_if_le hx hb hd ht (fun h => kt h p e s m args below meth c H locs A ls' B hP hD hS hl) (fun h => kf h p e s m args below meth c H locs A ls' B hP hD hS hl)
theorem x_iceq {x y : Int32} {off : Int} {tgt : Nat} (hd : decode (xcc M) pc = .ok (.if_icmp .eq off, 3)) (ht : (pc : Int) + off = (tgt : Int)) (kt : x = y → Ex l Ω M tgt ls st σ Q) (kf : ¬ x = y → Ex l Ω M (pc + 3) ls st σ Q) : Ex l Ω M pc ls (.int y :: .int x :: st) σ Q := by
  intro p e s m args below meth c H locs A ls' B hP hD hS hl
  obtain ⟨hx, hb, hr, hml, hown, hts, hlocks, hK, hA, hE⟩ := id B
  exact lv_icmp_eq hx hb hd ht (fun h => kt h p e s m args below meth c H locs A ls' B hP hD hS hl) (fun h => kf h p e s m args below meth c H locs A ls' B hP hD hS hl)
theorem x_icne {x y : Int32} {off : Int} {tgt : Nat} (hd : decode (xcc M) pc = .ok (.if_icmp .ne off, 3)) (ht : (pc : Int) + off = (tgt : Int)) (kt : ¬ x = y → Ex l Ω M tgt ls st σ Q) (kf : x = y → Ex l Ω M (pc + 3) ls st σ Q) : Ex l Ω M pc ls (.int y :: .int x :: st) σ Q := by
  intro p e s m args below meth c H locs A ls' B hP hD hS hl
  obtain ⟨hx, hb, hr, hml, hown, hts, hlocks, hK, hA, hE⟩ := id B
  exact lv_icmp_ne hx hb hd ht (fun h => kt h p e s m args below meth c H locs A ls' B hP hD hS hl) (fun h => kf h p e s m args below meth c H locs A ls' B hP hD hS hl)
theorem x_iclt {x y : Int32} {off : Int} {tgt : Nat} (hd : decode (xcc M) pc = .ok (.if_icmp .lt off, 3)) (ht : (pc : Int) + off = (tgt : Int)) (kt : x < y → Ex l Ω M tgt ls st σ Q) (kf : ¬ x < y → Ex l Ω M (pc + 3) ls st σ Q) : Ex l Ω M pc ls (.int y :: .int x :: st) σ Q := by
  intro p e s m args below meth c H locs A ls' B hP hD hS hl
  obtain ⟨hx, hb, hr, hml, hown, hts, hlocks, hK, hA, hE⟩ := id B
  exact lv_icmp_lt hx hb hd ht (fun h => kt h p e s m args below meth c H locs A ls' B hP hD hS hl) (fun h => kf h p e s m args below meth c H locs A ls' B hP hD hS hl)
theorem x_icge {x y : Int32} {off : Int} {tgt : Nat} (hd : decode (xcc M) pc = .ok (.if_icmp .ge off, 3)) (ht : (pc : Int) + off = (tgt : Int)) (kt : y ≤ x → Ex l Ω M tgt ls st σ Q) (kf : ¬ y ≤ x → Ex l Ω M (pc + 3) ls st σ Q) : Ex l Ω M pc ls (.int y :: .int x :: st) σ Q := by
  intro p e s m args below meth c H locs A ls' B hP hD hS hl
  obtain ⟨hx, hb, hr, hml, hown, hts, hlocks, hK, hA, hE⟩ := id B
  exact lv_icmp_ge hx hb hd ht (fun h => kt h p e s m args below meth c H locs A ls' B hP hD hS hl) (fun h => kf h p e s m args below meth c H locs A ls' B hP hD hS hl)
theorem x_icgt {x y : Int32} {off : Int} {tgt : Nat} (hd : decode (xcc M) pc = .ok (.if_icmp .gt off, 3)) (ht : (pc : Int) + off = (tgt : Int)) (kt : y < x → Ex l Ω M tgt ls st σ Q) (kf : ¬ y < x → Ex l Ω M (pc + 3) ls st σ Q) : Ex l Ω M pc ls (.int y :: .int x :: st) σ Q := by
  intro p e s m args below meth c H locs A ls' B hP hD hS hl
  obtain ⟨hx, hb, hr, hml, hown, hts, hlocks, hK, hA, hE⟩ := id B
  exact lv_icmp_gt hx hb hd ht (fun h => kt h p e s m args below meth c H locs A ls' B hP hD hS hl) (fun h => kf h p e s m args below meth c H locs A ls' B hP hD hS hl)
theorem x_icle {x y : Int32} {off : Int} {tgt : Nat} (hd : decode (xcc M) pc = .ok (.if_icmp .le off, 3)) (ht : (pc : Int) + off = (tgt : Int)) (kt : x ≤ y → Ex l Ω M tgt ls st σ Q) (kf : ¬ x ≤ y → Ex l Ω M (pc + 3) ls st σ Q) : Ex l Ω M pc ls (.int y :: .int x :: st) σ Q := by
  intro p e s m args below meth c H locs A ls' B hP hD hS hl
  obtain ⟨hx, hb, hr, hml, hown, hts, hlocks, hK, hA, hE⟩ := id B
  exact lv_icmp_le hx hb hd ht (fun h => kt h p e s m args below meth c H locs A ls' B hP hD hS hl) (fun h => kf h p e s m args below meth c H locs A ls' B hP hD hS hl)
theorem x_goto {off : Int} {tgt : Nat} (hd : decode (xcc M) pc = .ok (.goto off, 3)) (ht : (pc : Int) + off = (tgt : Int)) (k : Ex l Ω M tgt ls st σ Q) : Ex l Ω M pc ls (st) σ Q := by
  intro p e s m args below meth c H locs A ls' B hP hD hS hl
  obtain ⟨hx, hb, hr, hml, hown, hts, hlocks, hK, hA, hE⟩ := id B
  exact lv_goto hx hb hd ht (k p e s m args below meth c H locs A ls' B hP hD hS hl)
theorem x_tsw3 {x : Int32} {dflt lo hi : Int} {offs : Array Int} {len : Nat} (v0 v1 v2 : Int32) (t0 t1 t2 td : Nat) (hd : decode (xcc M) pc = .ok (.tableswitch dflt lo hi offs, len)) (hh : hi = lo + 2) (hv : v0.toInt = lo + 0 ∧ offs[0]? = some ((t0 : Int) - pc) ∧ v1.toInt = lo + 1 ∧ offs[1]? = some ((t1 : Int) - pc) ∧ v2.toInt = lo + 2 ∧ offs[2]? = some ((t2 : Int) - pc) ∧ (pc : Int) + dflt = (td : Int)) (k0 : x = v0 → Ex l Ω M t0 ls st σ Q) (k1 : x = v1 → Ex l Ω M t1 ls st σ Q) (k2 : x = v2 → Ex l Ω M t2 ls st σ Q) (kd : x ≠ v0 → x ≠ v1 → x ≠ v2 → Ex l Ω M td ls st σ Q) : Ex l Ω M pc ls (.int x :: st) σ Q := by
  intro p e s m args below meth c H locs A ls' B hP hD hS hl
  obtain ⟨hx, hb, hr, hml, hown, hts, hlocks, hK, hA, hE⟩ := id B
  obtain ⟨a0, b0, a1, b1, a2, b2, htd⟩ := hv
  by_cases h0 : x = v0
  · exact lv_tableIn (off := (t0 : Int) - pc) (tgt := t0) hx hb hd (by rw [h0, a0]; omega) (by rw [h0, a0, hh]; omega) (by rw [h0, a0, show (lo + 0 - lo).toNat = 0 by omega]; exact b0) (by omega) (k0 h0 p e s m args below meth c H locs A ls' B hP hD hS hl)
  by_cases h1 : x = v1
  · exact lv_tableIn (off := (t1 : Int) - pc) (tgt := t1) hx hb hd (by rw [h1, a1]; omega) (by rw [h1, a1, hh]; omega) (by rw [h1, a1, show (lo + 1 - lo).toNat = 1 by omega]; exact b1) (by omega) (k1 h1 p e s m args below meth c H locs A ls' B hP hD hS hl)
  by_cases h2 : x = v2
  · exact lv_tableIn (off := (t2 : Int) - pc) (tgt := t2) hx hb hd (by rw [h2, a2]; omega) (by rw [h2, a2, hh]; omega) (by rw [h2, a2, show (lo + 2 - lo).toNat = 2 by omega]; exact b2) (by omega) (k2 h2 p e s m args below meth c H locs A ls' B hP hD hS hl)
  refine lv_tableOut (tgt := td) hx hb hd ?_ htd (kd h0 h1 h2 p e s m args below meth c H locs A ls' B hP hD hS hl)
  have g0 : ¬ x.toInt = lo + 0 := fun z => h0 (Int32.toInt_inj.mp (z.trans a0.symm))
  have g1 : ¬ x.toInt = lo + 1 := fun z => h1 (Int32.toInt_inj.mp (z.trans a1.symm))
  have g2 : ¬ x.toInt = lo + 2 := fun z => h2 (Int32.toInt_inj.mp (z.trans a2.symm))
  rw [hh]
  omega
theorem x_tsw4 {x : Int32} {dflt lo hi : Int} {offs : Array Int} {len : Nat} (v0 v1 v2 v3 : Int32) (t0 t1 t2 t3 td : Nat) (hd : decode (xcc M) pc = .ok (.tableswitch dflt lo hi offs, len)) (hh : hi = lo + 3) (hv : v0.toInt = lo + 0 ∧ offs[0]? = some ((t0 : Int) - pc) ∧ v1.toInt = lo + 1 ∧ offs[1]? = some ((t1 : Int) - pc) ∧ v2.toInt = lo + 2 ∧ offs[2]? = some ((t2 : Int) - pc) ∧ v3.toInt = lo + 3 ∧ offs[3]? = some ((t3 : Int) - pc) ∧ (pc : Int) + dflt = (td : Int)) (k0 : x = v0 → Ex l Ω M t0 ls st σ Q) (k1 : x = v1 → Ex l Ω M t1 ls st σ Q) (k2 : x = v2 → Ex l Ω M t2 ls st σ Q) (k3 : x = v3 → Ex l Ω M t3 ls st σ Q) (kd : x ≠ v0 → x ≠ v1 → x ≠ v2 → x ≠ v3 → Ex l Ω M td ls st σ Q) : Ex l Ω M pc ls (.int x :: st) σ Q := by
  intro p e s m args below meth c H locs A ls' B hP hD hS hl
  obtain ⟨hx, hb, hr, hml, hown, hts, hlocks, hK, hA, hE⟩ := id B
  obtain ⟨a0, b0, a1, b1, a2, b2, a3, b3, htd⟩ := hv
  by_cases h0 : x = v0
  · exact lv_tableIn (off := (t0 : Int) - pc) (tgt := t0) hx hb hd (by rw [h0, a0]; omega) (by rw [h0, a0, hh]; omega) (by rw [h0, a0, show (lo + 0 - lo).toNat = 0 by omega]; exact b0) (by omega) (k0 h0 p e s m args below meth c H locs A ls' B hP hD hS hl)
  by_cases h1 : x = v1
  · exact lv_tableIn (off := (t1 : Int) - pc) (tgt := t1) hx hb hd (by rw [h1, a1]; omega) (by rw [h1, a1, hh]; omega) (by rw [h1, a1, show (lo + 1 - lo).toNat = 1 by omega]; exact b1) (by omega) (k1 h1 p e s m args below meth c H locs A ls' B hP hD hS hl)
  by_cases h2 : x = v2
  · exact lv_tableIn (off := (t2 : Int) - pc) (tgt := t2) hx hb hd (by rw [h2, a2]; omega) (by rw [h2, a2, hh]; omega) (by rw [h2, a2, show (lo + 2 - lo).toNat = 2 by omega]; exact b2) (by omega) (k2 h2 p e s m args below meth c H locs A ls' B hP hD hS hl)
  by_cases h3 : x = v3
  · exact lv_tableIn (off := (t3 : Int) - pc) (tgt := t3) hx hb hd (by rw [h3, a3]; omega) (by rw [h3, a3, hh]; omega) (by rw [h3, a3, show (lo + 3 - lo).toNat = 3 by omega]; exact b3) (by omega) (k3 h3 p e s m args below meth c H locs A ls' B hP hD hS hl)
  refine lv_tableOut (tgt := td) hx hb hd ?_ htd (kd h0 h1 h2 h3 p e s m args below meth c H locs A ls' B hP hD hS hl)
  have g0 : ¬ x.toInt = lo + 0 := fun z => h0 (Int32.toInt_inj.mp (z.trans a0.symm))
  have g1 : ¬ x.toInt = lo + 1 := fun z => h1 (Int32.toInt_inj.mp (z.trans a1.symm))
  have g2 : ¬ x.toInt = lo + 2 := fun z => h2 (Int32.toInt_inj.mp (z.trans a2.symm))
  have g3 : ¬ x.toInt = lo + 3 := fun z => h3 (Int32.toInt_inj.mp (z.trans a3.symm))
  rw [hh]
  omega
theorem x_tsw5 {x : Int32} {dflt lo hi : Int} {offs : Array Int} {len : Nat} (v0 v1 v2 v3 v4 : Int32) (t0 t1 t2 t3 t4 td : Nat) (hd : decode (xcc M) pc = .ok (.tableswitch dflt lo hi offs, len)) (hh : hi = lo + 4) (hv : v0.toInt = lo + 0 ∧ offs[0]? = some ((t0 : Int) - pc) ∧ v1.toInt = lo + 1 ∧ offs[1]? = some ((t1 : Int) - pc) ∧ v2.toInt = lo + 2 ∧ offs[2]? = some ((t2 : Int) - pc) ∧ v3.toInt = lo + 3 ∧ offs[3]? = some ((t3 : Int) - pc) ∧ v4.toInt = lo + 4 ∧ offs[4]? = some ((t4 : Int) - pc) ∧ (pc : Int) + dflt = (td : Int)) (k0 : x = v0 → Ex l Ω M t0 ls st σ Q) (k1 : x = v1 → Ex l Ω M t1 ls st σ Q) (k2 : x = v2 → Ex l Ω M t2 ls st σ Q) (k3 : x = v3 → Ex l Ω M t3 ls st σ Q) (k4 : x = v4 → Ex l Ω M t4 ls st σ Q) (kd : x ≠ v0 → x ≠ v1 → x ≠ v2 → x ≠ v3 → x ≠ v4 → Ex l Ω M td ls st σ Q) : Ex l Ω M pc ls (.int x :: st) σ Q := by
  intro p e s m args below meth c H locs A ls' B hP hD hS hl
  obtain ⟨hx, hb, hr, hml, hown, hts, hlocks, hK, hA, hE⟩ := id B
  obtain ⟨a0, b0, a1, b1, a2, b2, a3, b3, a4, b4, htd⟩ := hv
  by_cases h0 : x = v0
  · exact lv_tableIn (off := (t0 : Int) - pc) (tgt := t0) hx hb hd (by rw [h0, a0]; omega) (by rw [h0, a0, hh]; omega) (by rw [h0, a0, show (lo + 0 - lo).toNat = 0 by omega]; exact b0) (by omega) (k0 h0 p e s m args below meth c H locs A ls' B hP hD hS hl)
  by_cases h1 : x = v1
  · exact lv_tableIn (off := (t1 : Int) - pc) (tgt := t1) hx hb hd (by rw [h1, a1]; omega) (by rw [h1, a1, hh]; omega) (by rw [h1, a1, show (lo + 1 - lo).toNat = 1 by omega]; exact b1) (by omega) (k1 h1 p e s m args below meth c H locs A ls' B hP hD hS hl)
  by_cases h2 : x = v2
  · exact lv_tableIn (off := (t2 : Int) - pc) (tgt := t2) hx hb hd (by rw [h2, a2]; omega) (by rw [h2, a2, hh]; omega) (by rw [h2, a2, show (lo + 2 - lo).toNat = 2 by omega]; exact b2) (by omega) (k2 h2 p e s m args below meth c H locs A ls' B hP hD hS hl)
  by_cases h3 : x = v3
  · exact lv_tableIn (off := (t3 : Int) - pc) (tgt := t3) hx hb hd (by rw [h3, a3]; omega) (by rw [h3, a3, hh]; omega) (by rw [h3, a3, show (lo + 3 - lo).toNat = 3 by omega]; exact b3) (by omega) (k3 h3 p e s m args below meth c H locs A ls' B hP hD hS hl)
  by_cases h4 : x = v4
  · exact lv_tableIn (off := (t4 : Int) - pc) (tgt := t4) hx hb hd (by rw [h4, a4]; omega) (by rw [h4, a4, hh]; omega) (by rw [h4, a4, show (lo + 4 - lo).toNat = 4 by omega]; exact b4) (by omega) (k4 h4 p e s m args below meth c H locs A ls' B hP hD hS hl)
  refine lv_tableOut (tgt := td) hx hb hd ?_ htd (kd h0 h1 h2 h3 h4 p e s m args below meth c H locs A ls' B hP hD hS hl)
  have g0 : ¬ x.toInt = lo + 0 := fun z => h0 (Int32.toInt_inj.mp (z.trans a0.symm))
  have g1 : ¬ x.toInt = lo + 1 := fun z => h1 (Int32.toInt_inj.mp (z.trans a1.symm))
  have g2 : ¬ x.toInt = lo + 2 := fun z => h2 (Int32.toInt_inj.mp (z.trans a2.symm))
  have g3 : ¬ x.toInt = lo + 3 := fun z => h3 (Int32.toInt_inj.mp (z.trans a3.symm))
  have g4 : ¬ x.toInt = lo + 4 := fun z => h4 (Int32.toInt_inj.mp (z.trans a4.symm))
  rw [hh]
  omega
theorem x_tsw6 {x : Int32} {dflt lo hi : Int} {offs : Array Int} {len : Nat} (v0 v1 v2 v3 v4 v5 : Int32) (t0 t1 t2 t3 t4 t5 td : Nat) (hd : decode (xcc M) pc = .ok (.tableswitch dflt lo hi offs, len)) (hh : hi = lo + 5) (hv : v0.toInt = lo + 0 ∧ offs[0]? = some ((t0 : Int) - pc) ∧ v1.toInt = lo + 1 ∧ offs[1]? = some ((t1 : Int) - pc) ∧ v2.toInt = lo + 2 ∧ offs[2]? = some ((t2 : Int) - pc) ∧ v3.toInt = lo + 3 ∧ offs[3]? = some ((t3 : Int) - pc) ∧ v4.toInt = lo + 4 ∧ offs[4]? = some ((t4 : Int) - pc) ∧ v5.toInt = lo + 5 ∧ offs[5]? = some ((t5 : Int) - pc) ∧ (pc : Int) + dflt = (td : Int)) (k0 : x = v0 → Ex l Ω M t0 ls st σ Q) (k1 : x = v1 → Ex l Ω M t1 ls st σ Q) (k2 : x = v2 → Ex l Ω M t2 ls st σ Q) (k3 : x = v3 → Ex l Ω M t3 ls st σ Q) (k4 : x = v4 → Ex l Ω M t4 ls st σ Q) (k5 : x = v5 → Ex l Ω M t5 ls st σ Q) (kd : x ≠ v0 → x ≠ v1 → x ≠ v2 → x ≠ v3 → x ≠ v4 → x ≠ v5 → Ex l Ω M td ls st σ Q) : Ex l Ω M pc ls (.int x :: st) σ Q := by
  intro p e s m args below meth c H locs A ls' B hP hD hS hl
  obtain ⟨hx, hb, hr, hml, hown, hts, hlocks, hK, hA, hE⟩ := id B
  obtain ⟨a0, b0, a1, b1, a2, b2, a3, b3, a4, b4, a5, b5, htd⟩ := hv
  by_cases h0 : x = v0
  · exact lv_tableIn (off := (t0 : Int) - pc) (tgt := t0) hx hb hd (by rw [h0, a0]; omega) (by rw [h0, a0, hh]; omega) (by rw [h0, a0, show (lo + 0 - lo).toNat = 0 by omega]; exact b0) (by omega) (k0 h0 p e s m args below meth c H locs A ls' B hP hD hS hl)
  by_cases h1 : x = v1
  · exact lv_tableIn (off := (t1 : Int) - pc) (tgt := t1) hx hb hd (by rw [h1, a1]; omega) (by rw [h1, a1, hh]; omega) (by rw [h1, a1, show (lo + 1 - lo).toNat = 1 by omega]; exact b1) (by omega) (k1 h1 p e s m args below meth c H locs A ls' B hP hD hS hl)
  by_cases h2 : x = v2
  · exact lv_tableIn (off := (t2 : Int) - pc) (tgt := t2) hx hb hd (by rw [h2, a2]; omega) (by rw [h2, a2, hh]; omega) (by rw [h2, a2, show (lo + 2 - lo).toNat = 2 by omega]; exact b2) (by omega) (k2 h2 p e s m args below meth c H locs A ls' B hP hD hS hl)
  by_cases h3 : x = v3
  · exact lv_tableIn (off := (t3 : Int) - pc) (tgt := t3) hx hb hd (by rw [h3, a3]; omega) (by rw [h3, a3, hh]; omega) (by rw [h3, a3, show (lo + 3 - lo).toNat = 3 by omega]; exact b3) (by omega) (k3 h3 p e s m args below meth c H locs A ls' B hP hD hS hl)
  by_cases h4 : x = v4
  · exact lv_tableIn (off := (t4 : Int) - pc) (tgt := t4) hx hb hd (by rw [h4, a4]; omega) (by rw [h4, a4, hh]; omega) (by rw [h4, a4, show (lo + 4 - lo).toNat = 4 by omega]; exact b4) (by omega) (k4 h4 p e s m args below meth c H locs A ls' B hP hD hS hl)
  by_cases h5 : x = v5
  · exact lv_tableIn (off := (t5 : Int) - pc) (tgt := t5) hx hb hd (by rw [h5, a5]; omega) (by rw [h5, a5, hh]; omega) (by rw [h5, a5, show (lo + 5 - lo).toNat = 5 by omega]; exact b5) (by omega) (k5 h5 p e s m args below meth c H locs A ls' B hP hD hS hl)
  refine lv_tableOut (tgt := td) hx hb hd ?_ htd (kd h0 h1 h2 h3 h4 h5 p e s m args below meth c H locs A ls' B hP hD hS hl)
  have g0 : ¬ x.toInt = lo + 0 := fun z => h0 (Int32.toInt_inj.mp (z.trans a0.symm))
  have g1 : ¬ x.toInt = lo + 1 := fun z => h1 (Int32.toInt_inj.mp (z.trans a1.symm))
  have g2 : ¬ x.toInt = lo + 2 := fun z => h2 (Int32.toInt_inj.mp (z.trans a2.symm))
  have g3 : ¬ x.toInt = lo + 3 := fun z => h3 (Int32.toInt_inj.mp (z.trans a3.symm))
  have g4 : ¬ x.toInt = lo + 4 := fun z => h4 (Int32.toInt_inj.mp (z.trans a4.symm))
  have g5 : ¬ x.toInt = lo + 5 := fun z => h5 (Int32.toInt_inj.mp (z.trans a5.symm))
  rw [hh]
  omega
theorem x_geti {q ci i idx N : Nat} {fs : List xF} {C : String} {T : u_T} (hd : decode (xcc M) pc = .ok (.getfield idx, 3)) (hs : (xsh Ω)[q]? = some (.inr (ci, fs))) (hf : fs[i]? = some (.inl false)) (hc : vwCl[ci]? = some (C, T, N)) (hi : i < N) (hlk : Cond.fieldLink (xy M).cls idx (T i).1 (T i).2.1 (T i).2.2.1 ∈ gt) (hin : ∀ w ∈ u_ws C T N, w ∈ gt) (k : Ex l Ω M (pc + 3) ls (.int (σ.1 q i) :: st) σ Q) : Ex l Ω M pc ls (.ref q :: st) σ Q := by
  intro p e_ s m args below meth c H locs A ls' B hP hD hS hl
  obtain ⟨hx, hb, hr, hml, hown, hts, hlocks, hK, hA, hE⟩ := id B
  exact va_get (D := xD Ω) (ci := ci) (v := .int (σ.1 q i)) (C := C) (T := T) (N := N) hx hb hts hin hown hK hP q (xw_get hs) hc i hi (hts _ hlk) (fun _ h9 => h9) (by rw [List.getElem?_mapIdx, hf]; rfl) hd (k p e_ s m args below meth c H locs A ls' B hP hD hS hl)
theorem x_getl {q ci i idx N : Nat} {fs : List xF} {C : String} {T : u_T} (hd : decode (xcc M) pc = .ok (.getfield idx, 3)) (hs : (xsh Ω)[q]? = some (.inr (ci, fs))) (hf : fs[i]? = some (.inl true)) (hc : vwCl[ci]? = some (C, T, N)) (hi : i < N) (hlk : Cond.fieldLink (xy M).cls idx (T i).1 (T i).2.1 (T i).2.2.1 ∈ gt) (hin : ∀ w ∈ u_ws C T N, w ∈ gt) (k : Ex l Ω M (pc + 3) ls (.long (σ.2 q i) :: st) σ Q) : Ex l Ω M pc ls (.ref q :: st) σ Q := by
  intro p e_ s m args below meth c H locs A ls' B hP hD hS hl
  obtain ⟨hx, hb, hr, hml, hown, hts, hlocks, hK, hA, hE⟩ := id B
  exact va_get (D := xD Ω) (ci := ci) (v := .long (σ.2 q i)) (C := C) (T := T) (N := N) hx hb hts hin hown hK hP q (xw_get hs) hc i hi (hts _ hlk) (fun _ h9 => h9) (by rw [List.getElem?_mapIdx, hf]; rfl) hd (k p e_ s m args below meth c H locs A ls' B hP hD hS hl)
theorem x_getr {q ci i r idx N : Nat} {fs : List xF} {C : String} {T : u_T} (hd : decode (xcc M) pc = .ok (.getfield idx, 3)) (hs : (xsh Ω)[q]? = some (.inr (ci, fs))) (hf : fs[i]? = some (.inr r)) (hc : vwCl[ci]? = some (C, T, N)) (hi : i < N) (hlk : Cond.fieldLink (xy M).cls idx (T i).1 (T i).2.1 (T i).2.2.1 ∈ gt) (hin : ∀ w ∈ u_ws C T N, w ∈ gt) (k : Ex l Ω M (pc + 3) ls (.ref r :: st) σ Q) : Ex l Ω M pc ls (.ref q :: st) σ Q := by
  intro p e_ s m args below meth c H locs A ls' B hP hD hS hl
  obtain ⟨hx, hb, hr, hml, hown, hts, hlocks, hK, hA, hE⟩ := id B
  exact va_get (D := xD Ω) (ci := ci) (v := .ref (xad Ω r)) (C := C) (T := T) (N := N) hx hb hts hin hown hK hP q (xw_get hs) hc i hi (hts _ hlk) (fun _ h9 => h9) (by rw [List.getElem?_mapIdx, hf]; rfl) hd (k p e_ s m args below meth c H locs A ls' B hP hD hS hl)
theorem xput_i {q ci i : Nat} {fs : List xF} (ad : Nat → Nat) (v : Int32) (hf : fs[i]? = some (.inl false)) : (fs.mapIdx (fun j f => xfv ad σ q j f)).set i (.int v) = fs.mapIdx (fun j f => xfv ad (xpi σ q i v) q j f) := by
  apply List.ext_getElem?
  intro j
  rw [List.getElem?_set]
  by_cases hj : i = j
  · subst hj
    have hlt : i < fs.length := (List.getElem?_eq_some_iff.mp hf).1
    have he : fs[i] = .inl false := (List.getElem?_eq_some_iff.mp hf).2
    simp [List.getElem?_mapIdx, hlt, he, xfv, xui, upd]
  · rw [if_neg hj, List.getElem?_mapIdx, List.getElem?_mapIdx]
    cases hq : fs[j]? with
    | none => rfl
    | some f =>
      rcases f with b | r
      · cases b
        · simp [xfv, xui, upd, Ne.symm hj]
        · simp [xfv, xui]
      · rfl
theorem xput_l {q ci i : Nat} {fs : List xF} (ad : Nat → Nat) (v : Int64) (hf : fs[i]? = some (.inl true)) : (fs.mapIdx (fun j f => xfv ad σ q j f)).set i (.long v) = fs.mapIdx (fun j f => xfv ad (xpl σ q i v) q j f) := by
  apply List.ext_getElem?
  intro j
  rw [List.getElem?_set]
  by_cases hj : i = j
  · subst hj
    have hlt : i < fs.length := (List.getElem?_eq_some_iff.mp hf).1
    have he : fs[i] = .inl true := (List.getElem?_eq_some_iff.mp hf).2
    simp [List.getElem?_mapIdx, hlt, he, xfv, xul, vp_updL]
  · rw [if_neg hj, List.getElem?_mapIdx, List.getElem?_mapIdx]
    cases hq : fs[j]? with
    | none => rfl
    | some f =>
      rcases f with b | r
      · cases b
        · simp [xfv, xul]
        · simp [xfv, xul, vp_updL, Ne.symm hj]
      · rfl
theorem x_puti {q ci i idx N : Nat} {fs : List xF} {C : String} {T : u_T} {ty0 : Nat → FieldType} {ty : FieldType} {v : Int32} (hd : decode (xcc M) pc = .ok (.putfield idx, 3)) (hs : (xsh Ω)[q]? = some (.inr (ci, fs))) (hf : fs[i]? = some (.inl false)) (hc : vwCl[ci]? = some (C, T, N)) (hi : i < N) (hlk : Cond.fieldLink (xy M).cls idx (T i).1 (T i).2.1 (T i).2.2.1 ∈ gt) (hin : ∀ w ∈ u_ws C T N, w ∈ gt) (hty : ∀ k, k < N → parseFieldDescriptor (T k).2.2.1 = some (ty0 k)) (hnm : ∀ a, a < N → ∀ b, b < N → a ≠ b → (T a).2.1 ≠ (T b).2.1) (hfin : (T i).2.2.2 = false) (ht : ty0 i = ty) (hn : narrow ty (.int v) = .int v) (hfit : fits ty (.int v) = true) (k : Ex l Ω M (pc + 3) ls st (xpi σ q i v) Q) : Ex l Ω M pc ls (.int v :: .ref q :: st) σ Q := by
  intro p e_ s m args below meth c H locs A ls' B hP hD hS hl
  obtain ⟨hx, hb, hr, hml, hown, hts, hlocks, hK, hA, hE⟩ := id B
  have hlt : i < fs.length := (List.getElem?_eq_some_iff.mp hf).1
  refine va_put (D := xD Ω) (ci := ci) (v := .int v) (ty := ty) (C := C) (T := T) (N := N) hx hb hts hin ty0 hty hnm hown hK hP hD hS q (xw_get hs) hc i hi (hts _ hlk) (fun _ h9 => h9) hfin (ht ▸ hty i hi) hn hfit (by simpa using hlt) hd (fun H1 locs1 hP1 hD1 hS1 => ?_)
  have e : (xw Ω σ).set q (xad Ω q, .inr (ci, (fs.mapIdx (fun j f => xfv (xad Ω) σ q j f)).set i (.int v))) = xw Ω (xpi σ q i v) := by
    rw [xput_i (ci := ci) (xad Ω) v hf]
    exact xw_set (e := .inr (ci, fs)) hs (xui_ne _ _ _) (fun _ _ => rfl)
  rw [e] at hP1 hD1
  exact k p e_ s m args below meth c H1 locs1 A ls' B hP1 hD1 hS1 hl
theorem x_putl {q ci i idx N : Nat} {fs : List xF} {C : String} {T : u_T} {ty0 : Nat → FieldType} {v : Int64} (hd : decode (xcc M) pc = .ok (.putfield idx, 3)) (hs : (xsh Ω)[q]? = some (.inr (ci, fs))) (hf : fs[i]? = some (.inl true)) (hc : vwCl[ci]? = some (C, T, N)) (hi : i < N) (hlk : Cond.fieldLink (xy M).cls idx (T i).1 (T i).2.1 (T i).2.2.1 ∈ gt) (hin : ∀ w ∈ u_ws C T N, w ∈ gt) (hty : ∀ k, k < N → parseFieldDescriptor (T k).2.2.1 = some (ty0 k)) (hnm : ∀ a, a < N → ∀ b, b < N → a ≠ b → (T a).2.1 ≠ (T b).2.1) (hfin : (T i).2.2.2 = false) (ht : ty0 i = .long) (k : Ex l Ω M (pc + 3) ls st (xpl σ q i v) Q) : Ex l Ω M pc ls (.long v :: .ref q :: st) σ Q := by
  intro p e_ s m args below meth c H locs A ls' B hP hD hS hl
  obtain ⟨hx, hb, hr, hml, hown, hts, hlocks, hK, hA, hE⟩ := id B
  have hlt : i < fs.length := (List.getElem?_eq_some_iff.mp hf).1
  refine va_put (D := xD Ω) (ci := ci) (v := .long v) (ty := .long) (C := C) (T := T) (N := N) hx hb hts hin ty0 hty hnm hown hK hP hD hS q (xw_get hs) hc i hi (hts _ hlk) (fun _ h9 => h9) hfin (ht ▸ hty i hi) rfl rfl (by simpa using hlt) hd (fun H1 locs1 hP1 hD1 hS1 => ?_)
  have e : (xw Ω σ).set q (xad Ω q, .inr (ci, (fs.mapIdx (fun j f => xfv (xad Ω) σ q j f)).set i (.long v))) = xw Ω (xpl σ q i v) := by
    rw [xput_l (ci := ci) (xad Ω) v hf]
    exact xw_set (e := .inr (ci, fs)) hs (fun _ _ => rfl) (xul_ne _ _ _)
  rw [e] at hP1 hD1
  exact k p e_ s m args below meth c H1 locs1 A ls' B hP1 hD1 hS1 hl
theorem x_iald {q n b t : Nat} {i : Int32} (hd : decode (xcc M) pc = .ok (.iaload, 1)) (hs : (xsh Ω)[q]? = some (.inl (0, n, b, t))) (hin : vp_in i n) (k : Ex l Ω M (pc + 1) ls (.int (σ.1 q i.toNatClampNeg) :: st) σ Q) : Ex l Ω M pc ls (.int i :: .ref q :: st) σ Q := by
  intro p e_ s m args below meth c H locs A ls' B hP hD hS hl
  obtain ⟨hx, hb, hr, hml, hown, hts, hlocks, hK, hA, hE⟩ := id B
  exact va_iald hx hb hK hP q 0 (xw_get hs) rfl hin hd (k p e_ s m args below meth c H locs A ls' B hP hD hS hl)
theorem x_lald {q n b t : Nat} {i : Int32} (hd : decode (xcc M) pc = .ok (.laload, 1)) (hs : (xsh Ω)[q]? = some (.inl (1, n, b, t))) (hin : vp_in i n) (k : Ex l Ω M (pc + 1) ls (.long (σ.2 q i.toNatClampNeg) :: st) σ Q) : Ex l Ω M pc ls (.int i :: .ref q :: st) σ Q := by
  intro p e_ s m args below meth c H locs A ls' B hP hD hS hl
  obtain ⟨hx, hb, hr, hml, hown, hts, hlocks, hK, hA, hE⟩ := id B
  exact va_lald hx hb hK hP q 1 (xw_get hs) rfl hin hd (k p e_ s m args below meth c H locs A ls' B hP hD hS hl)
theorem x_cald {q n b t : Nat} {i : Int32} (h2 : xt2 Ω = .char) (hd : decode (xcc M) pc = .ok (.caload, 1)) (hs : (xsh Ω)[q]? = some (.inl (2, n, b, t))) (hin : vp_in i n) (k : Ex l Ω M (pc + 1) ls (.int (σ.1 q i.toNatClampNeg) :: st) σ Q) : Ex l Ω M pc ls (.int i :: .ref q :: st) σ Q := by
  intro p e_ s m args below meth c H locs A ls' B hP hD hS hl
  obtain ⟨hx, hb, hr, hml, hown, hts, hlocks, hK, hA, hE⟩ := id B
  exact va_cald hx hb hK hP q 2 (xw_get hs) (by rw [← h2]; rfl) hin hd (k p e_ s m args below meth c H locs A ls' B hP hD hS hl)
theorem x_aald {q n b t : Nat} {i : Int32} {C : String} (h2 : xt2 Ω = .object C) (hd : decode (xcc M) pc = .ok (.aaload, 1)) (hs : (xsh Ω)[q]? = some (.inl (3, n, b, t))) (hin : vp_in i n) (k : Ex l Ω M (pc + 1) ls (.ref (b + t * i.toNatClampNeg) :: st) σ Q) : Ex l Ω M pc ls (.int i :: .ref q :: st) σ Q := by
  intro p e_ s m args below meth c H locs A ls' B hP hD hS hl
  obtain ⟨hx, hb, hr, hml, hown, hts, hlocks, hK, hA, hE⟩ := id B
  exact va_aldq (C := C) hx hb hK hP q 2 (xw_get hs) (by rw [← h2]; rfl) hin hd (k p e_ s m args below meth c H locs A ls' B hP hD hS hl)
theorem x_iast {q n b t : Nat} {i v : Int32} (hd : decode (xcc M) pc = .ok (.iastore, 1)) (hs : (xsh Ω)[q]? = some (.inl (0, n, b, t))) (hin : vp_in i n) (k : Ex l Ω M (pc + 1) ls st (xpi σ q i.toNatClampNeg v) Q) : Ex l Ω M pc ls (.int v :: .int i :: .ref q :: st) σ Q := by
  intro p e_ s m args below meth c H locs A ls' B hP hD hS hl
  obtain ⟨hx, hb, hr, hml, hown, hts, hlocks, hK, hA, hE⟩ := id B
  refine va_iast hx hb hK hP hD hS q 0 (xw_get hs) rfl hin hd (fun H1 locs1 hP1 hD1 hS1 => ?_)
  have e : (xw Ω σ).set q (xad Ω q, .inl (xcy Ω 0, n, .inl (upd (σ.1 q) i.toNatClampNeg v))) = xw Ω (xpi σ q i.toNatClampNeg v) := by
    have h1 := xw_set (σ := σ) (τ := xpi σ q i.toNatClampNeg v) hs (xui_ne _ _ _) (fun _ _ => rfl)
    simpa [xce, xui] using h1
  rw [e] at hP1 hD1
  exact k p e_ s m args below meth c H1 locs1 A ls' B hP1 hD1 hS1 hl
theorem x_last {q n b t : Nat} {i : Int32} {v : Int64} (hd : decode (xcc M) pc = .ok (.lastore, 1)) (hs : (xsh Ω)[q]? = some (.inl (1, n, b, t))) (hin : vp_in i n) (k : Ex l Ω M (pc + 1) ls st (xpl σ q i.toNatClampNeg v) Q) : Ex l Ω M pc ls (.long v :: .int i :: .ref q :: st) σ Q := by
  intro p e_ s m args below meth c H locs A ls' B hP hD hS hl
  obtain ⟨hx, hb, hr, hml, hown, hts, hlocks, hK, hA, hE⟩ := id B
  refine va_last hx hb hK hP hD hS q 1 (xw_get hs) rfl hin hd (fun H1 locs1 hP1 hD1 hS1 => ?_)
  have e : (xw Ω σ).set q (xad Ω q, .inl (xcy Ω 1, n, .inr (.inl (vp_updL (σ.2 q) i.toNatClampNeg v)))) = xw Ω (xpl σ q i.toNatClampNeg v) := by
    have h1 := xw_set (σ := σ) (τ := xpl σ q i.toNatClampNeg v) hs (fun _ _ => rfl) (xul_ne _ _ _)
    simpa [xce, xul] using h1
  rw [e] at hP1 hD1
  exact k p e_ s m args below meth c H1 locs1 A ls' B hP1 hD1 hS1 hl
theorem x_clen {q n b t : Nat} {v : Int32} (hd : decode (xcc M) pc = .ok (.arraylength, 1)) (hs : (xsh Ω)[q]? = some (.inl (2, n, b, t))) (hv : Int32.ofNat n = v) (k : Ex l Ω M (pc + 1) ls (.int v :: st) σ Q) : Ex l Ω M pc ls (.ref q :: st) σ Q := by
  intro p e_ s m args below meth c H locs A ls' B hP hD hS hl
  obtain ⟨hx, hb, hr, hml, hown, hts, hlocks, hK, hA, hE⟩ := id B
  exact va_alen hx hb hK hP q 2 (xw_get hs) (ty := xt2 Ω) rfl hv hd (k p e_ s m args below meth c H locs A ls' B hP hD hS hl)
theorem x_min {idx : Nat} {x y : Int32} (hd : decode (xcc M) pc = .ok (.invokestatic idx, 3)) (h1 : Cond.methodLink (xy M).cls idx Lib.Math.min.name ∈ gt) (h2 : Cond.static Lib.Math.min.name ∈ gt) (h3 : Cond.initialized "java/lang/Math" ∈ gt) (h4 : Cond.code Lib.Math.min.name Lib.Math.min.code 2 (some .int) ∈ gt) (hf : 1 ≤ (xrm M).frames) (hlo : (st.map fun v => v.category).sum + 13 ≤ (xrm M).locals) (k : Ex l Ω M (pc + 3) ls (.int (if y < x then y else x) :: st) σ Q) : Ex l Ω M pc ls (.int y :: .int x :: st) σ Q := by
  intro p e_ s m args below meth c H locs A ls' B hP hD hS hl
  obtain ⟨hx, hb, hr, hml, hown, hts, hlocks, hK, hA, hE⟩ := id B
  exact va_mmin hx hb (hml.trans hl.1.symm) hown (hts _ h1) (hts _ h2) (hts _ h3) (hts _ h4) hf (by rw [xcats]; exact hlo) (Nat.zero_le _) (Nat.zero_le _) hd (k p e_ s m args below meth c H locs A ls' B hP hD hS hl)
theorem x_max {idx : Nat} {x y : Int32} (hd : decode (xcc M) pc = .ok (.invokestatic idx, 3)) (h1 : Cond.methodLink (xy M).cls idx Lib.Math.max.name ∈ gt) (h2 : Cond.static Lib.Math.max.name ∈ gt) (h3 : Cond.initialized "java/lang/Math" ∈ gt) (h4 : Cond.code Lib.Math.max.name Lib.Math.max.code 2 (some .int) ∈ gt) (hf : 1 ≤ (xrm M).frames) (hlo : (st.map fun v => v.category).sum + 13 ≤ (xrm M).locals) (k : Ex l Ω M (pc + 3) ls (.int (if x < y then y else x) :: st) σ Q) : Ex l Ω M pc ls (.int y :: .int x :: st) σ Q := by
  intro p e_ s m args below meth c H locs A ls' B hP hD hS hl
  obtain ⟨hx, hb, hr, hml, hown, hts, hlocks, hK, hA, hE⟩ := id B
  exact va_mmax hx hb (hml.trans hl.1.symm) hown (hts _ h1) (hts _ h2) (hts _ h3) (hts _ h4) hf (by rw [xcats]; exact hlo) (Nat.zero_le _) (Nat.zero_le _) hd (k p e_ s m args below meth c H locs A ls' B hP hD hS hl)
/-! ends -/
theorem xend {oc : Option Value} {A : Nat → Prop} {s t : State} {H : Heap} {locs : List Loc} (hP : va_P (xD Ω) vwCl (xw Ω σ) H) (hK : va_K (xD Ω) vwCl (xtys Ω) s) (hD : va_D A (xw Ω σ)) (hS : va_S A s.heap H locs) (hq : Q oc σ) (args : Array Value) (ht : t.heap = H) (hW : s.WarmedH t.vm) : xQc Ω A Q args s (.returned (oc.map (xv (xad Ω)))) t :=
  ⟨⟨oc, σ, rfl, hq, by rw [ht]; exact hP, va_K.moved hW.alike hK, hD⟩, hS.F ht⟩
theorem x_iret {v : Int32} (hd : decode (xcc M) pc = .ok (.ireturn, 1)) (hr : xret M = some .int) (hq : Q (some (.int v)) σ) : Ex l Ω M pc ls [.int v] σ Q := by
  intro p e s m args below meth c H locs A ls' B hP hD hS hl
  obtain ⟨hx, hb, hr0, hml, hown, hts, hlocks, hK, hA, hE⟩ := id B
  exact W.iret (v := v) hx hb (hr0.trans hr) (fun t ht hW => xend (oc := some (.int v)) hP hK hD hS hq args ht hW) hS.2.2 hd hlocks
theorem x_zret {v : Int32} (hd : decode (xcc M) pc = .ok (.ireturn, 1)) (hr : xret M = some .boolean) (hn : v = 0 ∨ v = 1) (hq : Q (some (.int v)) σ) : Ex l Ω M pc ls [.int v] σ Q := by
  intro p e s m args below meth c H locs A ls' B hP hD hS hl
  obtain ⟨hx, hb, hr0, hml, hown, hts, hlocks, hK, hA, hE⟩ := id B
  exact W.zret (v := v) (ty := .boolean) hx hb (hr0.trans hr) (by rcases hn with rfl | rfl <;> decide) (fun t ht hW => xend (oc := some (.int v)) hP hK hD hS hq args ht hW) hS.2.2 hd hlocks
theorem x_lret {v : Int64} (hd : decode (xcc M) pc = .ok (.lreturn, 1)) (hr : xret M = some .long) (hq : Q (some (.long v)) σ) : Ex l Ω M pc ls [.long v] σ Q := by
  intro p e s m args below meth c H locs A ls' B hP hD hS hl
  obtain ⟨hx, hb, hr0, hml, hown, hts, hlocks, hK, hA, hE⟩ := id B
  exact W.lret (v := v) hx hb (hr0.trans hr) (fun t ht hW => xend (oc := some (.long v)) hP hK hD hS hq args ht hW) hS.2.2 hd hlocks
theorem x_vret (hd : decode (xcc M) pc = .ok (.return_, 1)) (hr : xret M = none) (hq : Q none σ) : Ex l Ω M pc ls [] σ Q := by
  intro p e s m args below meth c H locs A ls' B hP hD hS hl
  obtain ⟨hx, hb, hr0, hml, hown, hts, hlocks, hK, hA, hE⟩ := id B
  exact W.vret hx hb (hr0.trans hr) (fun t ht hW => xend (oc := none) hP hK hD hS hq args ht hW) hS.2.2 hd hlocks
end XR
