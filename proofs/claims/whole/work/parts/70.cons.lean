/-! CONSTRUCTORS: a run that makes cells; its world is a list -/
theorem co_obj : Cond.code objectInit ⟨#[0xb1]⟩ 1 none ∈ gt := gt_of 65 rfl (by decide +kernel)
theorem im_obj : Cond.instanceMethod objectInit ∈ gt := im_java_lang_Object__init_
abbrev zT : Type := List (ClassId × FieldType)
def zB (D : va_G) (tys : zT) (M : xM) (p : Program) (s : State) (m : MethodId) (args : Array Value) (meth : Method) (c : Code) (A : Nat → Prop) : Prop :=
  p.tables.exec = Jvm.exec ∧ c.code = xcc M ∧ meth.sig.returnType = none ∧ c.maxLocals = xnL M ∧ s.vm.findClass (xy M).cls = some m.cls ∧ (∀ w ∈ gt, w.before args s = true) ∧ meth.locks = false ∧ va_K D vwCl tys s ∧ (∀ q, s.heap.size ≤ q → A q) ∧ meth.name = "<init>" ∧ va_AO RX1 s
def zQ (D : va_G) (A : Nat → Prop) (Q : va_W → Prop) : Array Value → State → Outcome → State → Prop := fun _ st oc t =>
  (oc = .returned none ∧ ∃ ws, Q ws ∧ va_P D vwCl ws t.heap ∧ va_D A ws) ∧ va_F A st t
def Zx (l : Launch) (D : va_G) (tys : zT) (M : xM) (pc : Nat) (ls : List (Option Value)) (st : List Value) (ws : va_W) (kc ks : Nat) (Q : va_W → Prop) : Prop :=
  ∀ (p : Program) (e : Env) (s : State) (m : MethodId) (args : Array Value) (below : List Frame) (meth : Method) (c : Code) (H : Heap) (locs : List Loc) (A : Nat → Prop) (ls' : Array Slot),
    zB D tys M p s m args meth c A → va_P D vwCl ws H → va_D A ws → va_S A s.heap H locs → lv_has ls' (xnL M) (xLoc id 0 ls) →
    W p l e (xrm M) s m args below meth c H locs kc ks (MQ below (zQ D A Q) args s (xrm M).cells (xrm M).slots A) (F0 m pc ls' st)
theorem ty_eq {D : va_G} {cl : List vw_C} {tys : zT} {s : State} {ty : FieldType} {a b : ClassId} {i j : Nat} (hK : va_K D cl tys s) (hi : tys[i]? = some (a, ty)) (hj : tys[j]? = some (b, ty)) : a = b := by
  have h1 := (hK.2 i _ hi).2
  have h2 := (hK.2 j _ hj).2
  cases ty with
  | object C =>
    obtain ⟨_, _, _, _, _, e1⟩ := h1
    obtain ⟨_, _, _, _, _, e2⟩ := h2
    exact Option.some.inj (e1.symm.trans e2)
  | _ =>
    have h1 : s.vm.findClass _ = some a := h1
    have h2 : s.vm.findClass _ = some b := h2
    exact Option.some.inj (h1.symm.trans h2)
section ZR
variable {l : Launch} {D : va_G} {tys : zT} {M : xM} {pc : Nat} {ls : List (Option Value)} {st : List Value} {ws : va_W} {kc ks : Nat} {Q : va_W → Prop}
theorem z_iconst {n : Int} {v : Int32} (hd : decode (xcc M) pc = .ok (.iconst n, 1)) (hv : Int32.ofInt n = v) (k : Zx l D tys M (pc + 1) ls (.int v :: st) ws kc ks Q) : Zx l D tys M pc ls st ws kc ks Q := by
  intro p e s m args below meth c H locs A ls' B hP hD hS hl
  obtain ⟨hx, hb, hr, hml, hown, hts, hlocks, hK, hA, hnm, hAO⟩ := id B
  exact lv_iconst hx hb hd hv (k p e s m args below meth c H locs A ls' B hP hD hS hl)
theorem z_bipush {n : Int} {v : Int32} (hd : decode (xcc M) pc = .ok (.bipush n, 2)) (hv : (Int8.ofInt n).toInt32 = v) (k : Zx l D tys M (pc + 2) ls (.int v :: st) ws kc ks Q) : Zx l D tys M pc ls st ws kc ks Q := by
  intro p e s m args below meth c H locs A ls' B hP hD hS hl
  obtain ⟨hx, hb, hr, hml, hown, hts, hlocks, hK, hA, hnm, hAO⟩ := id B
  exact lv_bipush hx hb hd hv (k p e s m args below meth c H locs A ls' B hP hD hS hl)
theorem z_sipush {n : Int} {v : Int32} (hd : decode (xcc M) pc = .ok (.sipush n, 3)) (hv : (Int16.ofInt n).toInt32 = v) (k : Zx l D tys M (pc + 3) ls (.int v :: st) ws kc ks Q) : Zx l D tys M pc ls st ws kc ks Q := by
  intro p e s m args below meth c H locs A ls' B hP hD hS hl
  obtain ⟨hx, hb, hr, hml, hown, hts, hlocks, hK, hA, hnm, hAO⟩ := id B
  exact lv_sipush hx hb hd hv (k p e s m args below meth c H locs A ls' B hP hD hS hl)
theorem z_aload {j : Fin 4} {i x : Nat} (hd : decode (xcc M) pc = .ok (.aload_n j, 1)) (hi : (j : Nat) = i) (hv : ls[i]? = some (some (.ref x))) (k : Zx l D tys M (pc + 1) ls (.ref x :: st) ws kc ks Q) : Zx l D tys M pc ls st ws kc ks Q := by
  intro p e s m args below meth c H locs A ls' B hP hD hS hl
  obtain ⟨hx, hb, hr, hml, hown, hts, hlocks, hK, hA, hnm, hAO⟩ := id B
  exact lv_aload_n hx hb hd hi (xat (ad := id) hl hv) (k p e s m args below meth c H locs A ls' B hP hD hS hl)
theorem z_iload {j : Fin 4} {i : Nat} {x : Int32} (hd : decode (xcc M) pc = .ok (.iload_n j, 1)) (hi : (j : Nat) = i) (hv : ls[i]? = some (some (.int x))) (k : Zx l D tys M (pc + 1) ls (.int x :: st) ws kc ks Q) : Zx l D tys M pc ls st ws kc ks Q := by
  intro p e s m args below meth c H locs A ls' B hP hD hS hl
  obtain ⟨hx, hb, hr, hml, hown, hts, hlocks, hK, hA, hnm, hAO⟩ := id B
  exact lv_iload_n hx hb hd hi (xat (ad := id) hl hv) (k p e s m args below meth c H locs A ls' B hP hD hS hl)
theorem z_istore {j : Fin 4} {i : Nat} {x : Int32} {ls2 : List (Option Value)} (hd : decode (xcc M) pc = .ok (.istore_n j, 1)) (hi : (j : Nat) = i) (hn : i < xnL M) (hs : xs1 (.int x) i ls = ls2) (k : Zx l D tys M (pc + 1) ls2 st ws kc ks Q) : Zx l D tys M pc ls (.int x :: st) ws kc ks Q := by
  intro p e s m args below meth c H locs A ls' B hP hD hS hl
  obtain ⟨hx, hb, hr, hml, hown, hts, hlocks, hK, hA, hnm, hAO⟩ := id B
  exact lv_istore_n hx hb hd hi hl hn rfl (fun ls2 h2 => k p e s m args below meth c H locs A ls2 B hP hD hS (hs ▸ xhas1 (ad := id) (v := .int x) h2))
theorem z_iinc {i : Nat} {n : Int} {x v : Int32} {ls2 : List (Option Value)} (hd : decode (xcc M) pc = .ok (.iinc i n, 3)) (hv : ls[i]? = some (some (.int x))) (he : x + Int32.ofInt n = v) (hn : i < xnL M) (hs : xs1 (.int v) i ls = ls2) (k : Zx l D tys M (pc + 3) ls2 st ws kc ks Q) : Zx l D tys M pc ls st ws kc ks Q := by
  intro p e s m args below meth c H locs A ls' B hP hD hS hl
  obtain ⟨hx, hb, hr, hml, hown, hts, hlocks, hK, hA, hnm, hAO⟩ := id B
  obtain ⟨j, hj⟩ := List.getElem?_of_mem (xLoc_at (ad := id) ls 0 i (.int x) hv)
  rw [Nat.zero_add] at hj
  exact lv_iinc (k := j) hx hb hd hl hj he hn rfl (fun ls2 h2 => k p e s m args below meth c H locs A ls2 B hP hD hS (hs ▸ xhas1 (ad := id) (v := .int v) h2))
theorem z_goto {off : Int} {tgt : Nat} (hd : decode (xcc M) pc = .ok (.goto off, 3)) (ht : (pc : Int) + off = (tgt : Int)) (k : Zx l D tys M tgt ls st ws kc ks Q) : Zx l D tys M pc ls st ws kc ks Q := by
  intro p e s m args below meth c H locs A ls' B hP hD hS hl
  obtain ⟨hx, hb, hr, hml, hown, hts, hlocks, hK, hA, hnm, hAO⟩ := id B
  exact lv_goto hx hb hd ht (k p e s m args below meth c H locs A ls' B hP hD hS hl)
theorem z_geF {x y : Int32} {off : Int} {tgt : Nat} (hd : decode (xcc M) pc = .ok (.if_icmp .ge off, 3)) (ht : (pc : Int) + off = (tgt : Int)) (h : ¬ y ≤ x) (k : Zx l D tys M (pc + 3) ls st ws kc ks Q) : Zx l D tys M pc ls (.int y :: .int x :: st) ws kc ks Q := by
  intro p e s m args below meth c H locs A ls' B hP hD hS hl
  obtain ⟨hx, hb, hr, hml, hown, hts, hlocks, hK, hA, hnm, hAO⟩ := id B
  exact lv_icmp_ge hx hb hd ht (fun z => absurd z h) (fun _ => k p e s m args below meth c H locs A ls' B hP hD hS hl)
theorem z_geT {x y : Int32} {off : Int} {tgt : Nat} (hd : decode (xcc M) pc = .ok (.if_icmp .ge off, 3)) (ht : (pc : Int) + off = (tgt : Int)) (h : y ≤ x) (k : Zx l D tys M tgt ls st ws kc ks Q) : Zx l D tys M pc ls (.int y :: .int x :: st) ws kc ks Q := by
  intro p e s m args below meth c H locs A ls' B hP hD hS hl
  obtain ⟨hx, hb, hr, hml, hown, hts, hlocks, hK, hA, hnm, hAO⟩ := id B
  exact lv_icmp_ge hx hb hd ht (fun _ => k p e s m args below meth c H locs A ls' B hP hD hS hl) (fun z => absurd h z)
theorem z_dup {v : Value} (hd : decode (xcc M) pc = .ok (.dup, 1)) (hc : v.category = 1) (k : Zx l D tys M (pc + 1) ls (v :: v :: st) ws kc ks Q) : Zx l D tys M pc ls (v :: st) ws kc ks Q := by
  intro p e s m args below meth c H locs A ls' B hP hD hS hl
  obtain ⟨hx, hb, hr, hml, hown, hts, hlocks, hK, hA, hnm, hAO⟩ := id B
  exact lv_dup hx hb hd hc (k p e s m args below meth c H locs A ls' B hP hD hS hl)
theorem z_obj {idx a : Nat} (hd : decode (xcc M) pc = .ok (.invokespecial idx, 3)) (hlk : Cond.methodLink (xy M).cls idx objectInit ∈ gt) (hfr : 1 ≤ (xrm M).frames) (hlo : ∀ (m : MethodId) (ls : Array Slot), 2 * (F0 m pc ls [.ref a]).monitorRoom + (([] : List Value).map fun v => v.category).sum + 12 ≤ (xrm M).locals) (k : Zx l D tys M (pc + 3) ls [] ws kc ks Q) : Zx l D tys M pc ls [.ref a] ws kc ks Q := by
  intro p e s m args below meth c H locs A ls' B hP hD hS hl
  obtain ⟨hx, hb, hr, hml, hown, hts, hlocks, hK, hA, hnm, hAO⟩ := id B
  exact W.objInit hx hb hown (hts _ hlk) (hts _ im_obj) (hts _ co_obj) rfl (by rw [hml]; exact hl.1) rfl hd hfr (hlo m ls') (k p e s m args below meth c H locs A ls' B hP hD hS hl)
theorem z_new {ci idx N kc2 ks2 : Nat} {C : String} {T : u_T} {fs : List Value} (ty : Nat → FieldType) (hd : decode (xcc M) pc = .ok (.new idx, 3)) (hcl : Cond.classLink (xy M).cls idx C ∈ gt) (hia : Cond.instantiable C N ∈ gt) (hini : Cond.initialized C ∈ gt) (hin : ∀ w ∈ u_ws C T N, w ∈ gt) (hty : ∀ k, k < N → parseFieldDescriptor (T k).2.2.1 = some (ty k)) (hc : vwCl[ci]? = some (C, T, N)) (hfs : ∀ j, j < N → defaultValue (ty j) = vp_V fs j) (h1 : kc + 1 = kc2) (h2 : ks + N = ks2) (g1 : kc2 ≤ (xrm M).cells) (g2 : ks2 ≤ (xrm M).slots) (k : ∀ q : Nat, Zx l D tys M (pc + 3) ls (.ref q :: st) (ws ++ [(q, .inr (ci, fs))]) kc2 ks2 Q) : Zx l D tys M pc ls st ws kc ks Q := by
  intro p e s m args below meth c H locs A ls' B hP hD hS hl
  obtain ⟨hx, hb, hr, hml, hown, hts, hlocks, hK, hA, hnm, hAO⟩ := id B
  subst h1 h2
  exact va_new (ci := ci) (fs := fs) (C := C) (T := T) (N := N) hx hb hts hin ty hty hown (hts _ hcl) (hts _ hia) (hts _ hini) hK hP hD hS hA hc hfs g1 g2 hd (fun q H1 hP1 hD1 hS1 => k q p e s m args below meth c H1 locs A ls' B hP1 hD1 hS1 hl)
theorem z_newi {N kc2 ks2 : Nat} {cA : ClassId} (hd : decode (xcc M) pc = .ok (.newarray .int, 2)) (ht : tys[0]? = some (cA, .int)) (hN : N < 2 ^ 31) (hby : N * componentBytes .int ≤ 536870912) (h1 : kc + 1 = kc2) (h2 : ks + N = ks2) (g1 : kc2 ≤ (xrm M).cells) (g2 : ks2 ≤ (xrm M).slots) (k : ∀ q : Nat, Zx l D tys M (pc + 2) ls (.ref q :: st) (ws ++ [(q, .inl (cA, N, .inl (fun _ => 0)))]) kc2 ks2 Q) : Zx l D tys M pc ls (.int (nI N) :: st) ws kc ks Q := by
  intro p e s m args below meth c H locs A ls' B hP hD hS hl
  obtain ⟨hx, hb, hr, hml, hown, hts, hlocks, hK, hA, hnm, hAO⟩ := id B
  subst h1 h2
  refine va_newa (atype := .int) (ty := .int) (a0 := (N, .inl (fun _ => 0))) hx hb (hts _ ac_int) rfl hK hP hD hS hA (fun _ => rfl) (nI_pos hN) (nI_clamp hN) hby g1 g2 hd (fun q cB H1 hK1 hP1 hD1 hS1 => ?_)
  have e1 : cB = cA := ty_eq (ty := .int) hK1 (i := tys.length) (j := 0) (by simp) (by rw [List.getElem?_append_left (List.getElem?_eq_some_iff.mp ht).1]; exact ht)
  subst e1
  exact k q p e s m args below meth c H1 locs A ls' B hP1 hD1 hS1 hl
theorem z_newl {N kc2 ks2 : Nat} {cA : ClassId} (hd : decode (xcc M) pc = .ok (.newarray .long, 2)) (ht : tys[1]? = some (cA, .long)) (hN : N < 2 ^ 31) (hby : N * componentBytes .long ≤ 536870912) (h1 : kc + 1 = kc2) (h2 : ks + N = ks2) (g1 : kc2 ≤ (xrm M).cells) (g2 : ks2 ≤ (xrm M).slots) (k : ∀ q : Nat, Zx l D tys M (pc + 2) ls (.ref q :: st) (ws ++ [(q, .inl (cA, N, .inr (.inl (fun _ => 0))))]) kc2 ks2 Q) : Zx l D tys M pc ls (.int (nI N) :: st) ws kc ks Q := by
  intro p e s m args below meth c H locs A ls' B hP hD hS hl
  obtain ⟨hx, hb, hr, hml, hown, hts, hlocks, hK, hA, hnm, hAO⟩ := id B
  subst h1 h2
  refine va_newa (atype := .long) (ty := .long) (a0 := (N, .inr (.inl (fun _ => 0)))) hx hb (hts _ ac_long) rfl hK hP hD hS hA (fun _ => rfl) (nI_pos hN) (nI_clamp hN) hby g1 g2 hd (fun q cB H1 hK1 hP1 hD1 hS1 => ?_)
  have e1 : cB = cA := ty_eq (ty := .long) hK1 (i := tys.length) (j := 1) (by simp) (by rw [List.getElem?_append_left (List.getElem?_eq_some_iff.mp ht).1]; exact ht)
  subst e1
  exact k q p e s m args below meth c H1 locs A ls' B hP1 hD1 hS1 hl
theorem z_newc {N kc2 ks2 : Nat} {cA : ClassId} (hd : decode (xcc M) pc = .ok (.newarray .char, 2)) (ht : tys[2]? = some (cA, .char)) (hN : N < 2 ^ 31) (hby : N * componentBytes .char ≤ 536870912) (h1 : kc + 1 = kc2) (h2 : ks + N = ks2) (g1 : kc2 ≤ (xrm M).cells) (g2 : ks2 ≤ (xrm M).slots) (k : ∀ q : Nat, Zx l D tys M (pc + 2) ls (.ref q :: st) (ws ++ [(q, .inl (cA, N, .inl (fun _ => 0)))]) kc2 ks2 Q) : Zx l D tys M pc ls (.int (nI N) :: st) ws kc ks Q := by
  intro p e s m args below meth c H locs A ls' B hP hD hS hl
  obtain ⟨hx, hb, hr, hml, hown, hts, hlocks, hK, hA, hnm, hAO⟩ := id B
  subst h1 h2
  refine va_newa (atype := .char) (ty := .char) (a0 := (N, .inl (fun _ => 0))) hx hb (hts _ ac_char) rfl hK hP hD hS hA (fun _ => rfl) (nI_pos hN) (nI_clamp hN) hby g1 g2 hd (fun q cB H1 hK1 hP1 hD1 hS1 => ?_)
  have e1 : cB = cA := ty_eq (ty := .char) hK1 (i := tys.length) (j := 2) (by simp) (by rw [List.getElem?_append_left (List.getElem?_eq_some_iff.mp ht).1]; exact ht)
  subst e1
  exact k q p e s m args below meth c H1 locs A ls' B hP1 hD1 hS1 hl
theorem z_newr {N kc2 ks2 idx : Nat} {cA : ClassId} (hd : decode (xcc M) pc = .ok (.anewarray idx, 3)) (hcl : Cond.classLink (xy M).cls idx RX1 ∈ gt) (ht : tys[2]? = some (cA, .object RX1)) (hN : N < 2 ^ 31) (hby : N * 4 ≤ 536870912) (h1 : kc + 1 = kc2) (h2 : ks + N = ks2) (g1 : kc2 ≤ (xrm M).cells) (g2 : ks2 ≤ (xrm M).slots) (k : ∀ q : Nat, Zx l D tys M (pc + 3) ls (.ref q :: st) (ws ++ [(q, .inl (cA, N, .inr (.inr (.inr (.inr (fun _ => none))))))]) kc2 ks2 Q) : Zx l D tys M pc ls (.int (nI N) :: st) ws kc ks Q := by
  intro p e s m args below meth c H locs A ls' B hP hD hS hl
  obtain ⟨hx, hb, hr, hml, hown, hts, hlocks, hK, hA, hnm, hAO⟩ := id B
  subst h1 h2
  refine va_newq (C := RX1) hx hb hown (hts _ hcl) hAO hK hP hD hS hA (nI_pos hN) (nI_clamp hN) hby g1 g2 hd (fun q cB H1 hK1 hP1 hD1 hS1 => ?_)
  have e1 : cB = cA := ty_eq (ty := .object RX1) hK1 (i := tys.length) (j := 2) (by simp) (by rw [List.getElem?_append_left (List.getElem?_eq_some_iff.mp ht).1]; exact ht)
  subst e1
  exact k q p e s m args below meth c H1 locs A ls' B hP1 hD1 hS1 hl
theorem z_putF {q0 ci i idx N a : Nat} {fs : List Value} {C : String} {T : u_T} {ty0 : Nat → FieldType} {ty : FieldType} {v : Value} {ws2 : va_W} (hd : decode (xcc M) pc = .ok (.putfield idx, 3)) (he : ws[q0]? = some (a, .inr (ci, fs))) (hc : vwCl[ci]? = some (C, T, N)) (hi : i < N) (hlk : Cond.fieldLink (xy M).cls idx (T i).1 (T i).2.1 (T i).2.2.1 ∈ gt) (hin : ∀ w ∈ u_ws C T N, w ∈ gt) (hty : ∀ k, k < N → parseFieldDescriptor (T k).2.2.1 = some (ty0 k)) (hn0 : ∀ a, a < N → ∀ b, b < N → a ≠ b → (T a).2.1 ≠ (T b).2.1) (hfin : (T i).2.2.2 = true) (hdecl : (T i).1 = (xy M).cls) (ht : ty0 i = ty) (hn : narrow ty v = v) (hfit : fits ty v = true) (hlen : i < fs.length) (hw : ws.set q0 (a, .inr (ci, fs.set i v)) = ws2) (k : Zx l D tys M (pc + 3) ls st ws2 kc ks Q) : Zx l D tys M pc ls (v :: .ref a :: st) ws kc ks Q := by
  intro p e s m args below meth c H locs A ls' B hP hD hS hl
  obtain ⟨hx, hb, hr, hml, hown, hts, hlocks, hK, hA, hnm, hAO⟩ := id B
  subst hw
  exact va_putF (D := D) (ci := ci) (v := v) (ty := ty) (C := C) (T := T) (N := N) hx hb hts hin ty0 hty hn0 hown hK hP hD hS q0 he hc i hi (hts _ hlk) (fun _ h9 => h9) hfin hnm hdecl (ht ▸ hty i hi) hn hfit hlen hd (fun H1 locs1 hP1 hD1 hS1 => k p e s m args below meth c H1 locs1 A ls' B hP1 hD1 hS1 hl)
theorem z_putN {q0 ci i idx N a : Nat} {fs : List Value} {C : String} {T : u_T} {ty0 : Nat → FieldType} {ty : FieldType} {v : Value} {ws2 : va_W} (hd : decode (xcc M) pc = .ok (.putfield idx, 3)) (he : ws[q0]? = some (a, .inr (ci, fs))) (hc : vwCl[ci]? = some (C, T, N)) (hi : i < N) (hlk : Cond.fieldLink (xy M).cls idx (T i).1 (T i).2.1 (T i).2.2.1 ∈ gt) (hin : ∀ w ∈ u_ws C T N, w ∈ gt) (hty : ∀ k, k < N → parseFieldDescriptor (T k).2.2.1 = some (ty0 k)) (hn0 : ∀ a, a < N → ∀ b, b < N → a ≠ b → (T a).2.1 ≠ (T b).2.1) (hfin : (T i).2.2.2 = false) (ht : ty0 i = ty) (hn : narrow ty v = v) (hfit : fits ty v = true) (hlen : i < fs.length) (hw : ws.set q0 (a, .inr (ci, fs.set i v)) = ws2) (k : Zx l D tys M (pc + 3) ls st ws2 kc ks Q) : Zx l D tys M pc ls (v :: .ref a :: st) ws kc ks Q := by
  intro p e s m args below meth c H locs A ls' B hP hD hS hl
  obtain ⟨hx, hb, hr, hml, hown, hts, hlocks, hK, hA, hnm, hAO⟩ := id B
  subst hw
  exact va_put (D := D) (ci := ci) (v := v) (ty := ty) (C := C) (T := T) (N := N) hx hb hts hin ty0 hty hn0 hown hK hP hD hS q0 he hc i hi (hts _ hlk) (fun _ h9 => h9) hfin (ht ▸ hty i hi) hn hfit hlen hd (fun H1 locs1 hP1 hD1 hS1 => k p e s m args below meth c H1 locs1 A ls' B hP1 hD1 hS1 hl)
theorem z_get {q0 ci i idx N a : Nat} {fs : List Value} {C : String} {T : u_T} {v : Value} (hd : decode (xcc M) pc = .ok (.getfield idx, 3)) (he : ws[q0]? = some (a, .inr (ci, fs))) (hc : vwCl[ci]? = some (C, T, N)) (hi : i < N) (hlk : Cond.fieldLink (xy M).cls idx (T i).1 (T i).2.1 (T i).2.2.1 ∈ gt) (hin : ∀ w ∈ u_ws C T N, w ∈ gt) (hv : fs[i]? = some v) (k : Zx l D tys M (pc + 3) ls (v :: st) ws kc ks Q) : Zx l D tys M pc ls (.ref a :: st) ws kc ks Q := by
  intro p e s m args below meth c H locs A ls' B hP hD hS hl
  obtain ⟨hx, hb, hr, hml, hown, hts, hlocks, hK, hA, hnm, hAO⟩ := id B
  exact va_get (D := D) (ci := ci) (v := v) (C := C) (T := T) (N := N) hx hb hts hin hown hK hP q0 he hc i hi (hts _ hlk) (fun _ h9 => h9) hv hd (k p e s m args below meth c H locs A ls' B hP hD hS hl)
theorem z_aast {q0 qk ci a v n i : Nat} {cA : ClassId} {vs : List Value} {f : Nat → Option Nat} {T : u_T} {N : Nat} {ws2 : va_W} (hd : decode (xcc M) pc = .ok (.aastore, 1)) (ha : ws[q0]? = some (a, .inl (cA, n, .inr (.inr (.inr (.inr f)))))) (ht : tys[2]? = some (cA, .object RX1)) (hv : ws[qk]? = some (v, .inr (ci, vs))) (hc : vwCl[ci]? = some (RX1, T, N)) (hi : i < n) (hn : n < 2 ^ 31) (hw : ws.set q0 (a, .inl (cA, n, .inr (.inr (.inr (.inr (va_up f i (some v))))))) = ws2) (k : Zx l D tys M (pc + 1) ls st ws2 kc ks Q) : Zx l D tys M pc ls (.ref v :: .int (nI i) :: .ref a :: st) ws kc ks Q := by
  intro p e s m args below meth c H locs A ls' B hP hD hS hl
  obtain ⟨hx, hb, hr, hml, hown, hts, hlocks, hK, hA, hnm, hAO⟩ := id B
  refine va_astq (r := (RX1, T, N)) hx hb hK hP hD hS q0 2 qk ci ha ht hv hc (vp_in_nI hi hn) hd (fun H1 locs1 hP1 hD1 hS1 => ?_)
  rw [nI_clamp (Nat.lt_trans hi hn), hw] at hP1 hD1
  exact k p e s m args below meth c H1 locs1 A ls' B hP1 hD1 hS1 hl
theorem z_iast {q0 a n i : Nat} {cA : ClassId} {x : Int32} {f : Nat → Int32} {ws2 : va_W} (hd : decode (xcc M) pc = .ok (.iastore, 1)) (ha : ws[q0]? = some (a, .inl (cA, n, .inl f))) (ht : tys[0]? = some (cA, .int)) (hi : i < n) (hn : n < 2 ^ 31) (hw : ws.set q0 (a, .inl (cA, n, .inl (upd f i x))) = ws2) (k : Zx l D tys M (pc + 1) ls st ws2 kc ks Q) : Zx l D tys M pc ls (.int x :: .int (nI i) :: .ref a :: st) ws kc ks Q := by
  intro p e s m args below meth c H locs A ls' B hP hD hS hl
  obtain ⟨hx, hb, hr, hml, hown, hts, hlocks, hK, hA, hnm, hAO⟩ := id B
  refine va_iast hx hb hK hP hD hS q0 0 ha ht (vp_in_nI hi hn) hd (fun H1 locs1 hP1 hD1 hS1 => ?_)
  rw [nI_clamp (Nat.lt_trans hi hn), hw] at hP1 hD1
  exact k p e s m args below meth c H1 locs1 A ls' B hP1 hD1 hS1 hl
/-- k letters of a table are written -/
def wr (t : List Nat) (k : Nat) : Nat → Int32 := fun j => if j < k then nI (t.getD j 32) else 0
theorem wr_0 (t : List Nat) : wr t 0 = fun _ => 0 := by
  funext j
  exact if_neg (Nat.not_lt_zero _)
theorem wr_s (t : List Nat) (k : Nat) : upd (wr t k) k (nI (t.getD k 32)) = wr t (k + 1) := by
  funext j
  unfold upd wr
  by_cases h : j = k
  · subst h
    rw [if_pos rfl, if_pos (by omega)]
  · rw [if_neg h]
    by_cases h2 : j < k
    · rw [if_pos h2, if_pos (by omega)]
    · rw [if_neg h2, if_neg (by omega)]
theorem z_cast {q n i : Nat} {t : List Nat} {cA : ClassId} {w0 : va_W} (hd : decode (xcc M) pc = .ok (.castore, 1)) (ht : tys[2]? = some (cA, .char)) (hi : i < n) (hn : n < 2 ^ 31) (hx0 : vp_nar .char (nI (t.getD i 32)) = nI (t.getD i 32)) (k : Zx l D tys M (pc + 1) ls st (w0 ++ [(q, .inl (cA, n, .inl (wr t (i + 1))))]) kc ks Q) : Zx l D tys M pc ls (.int (nI (t.getD i 32)) :: .int (nI i) :: .ref q :: st) (w0 ++ [(q, .inl (cA, n, .inl (wr t i)))]) kc ks Q := by
  intro p e s m args below meth c H locs A ls' B hP hD hS hl
  obtain ⟨hx, hb, hr, hml, hown, hts, hlocks, hK, hA, hnm, hAO⟩ := id B
  have ha : (w0 ++ [(q, (.inl (cA, n, .inl (wr t i)) : va_E))])[w0.length]? = some (q, .inl (cA, n, .inl (wr t i))) := by simp
  refine va_cast hx hb hK hP hD hS w0.length 2 ha ht (vp_in_nI hi hn) hd (fun H1 locs1 hP1 hD1 hS1 => ?_)
  have e2 : (w0 ++ [(q, (.inl (cA, n, .inl (wr t i)) : va_E))]).set w0.length (q, .inl (cA, n, .inl (upd (wr t i) i (nI (t.getD i 32))))) = w0 ++ [(q, .inl (cA, n, .inl (wr t (i + 1))))] := by
    rw [List.set_append_right _ _ (Nat.le_refl _), Nat.sub_self, wr_s]
    rfl
  rw [nI_clamp (Nat.lt_trans hi hn), hx0, e2] at hP1 hD1
  exact k p e s m args below meth c H1 locs1 A ls' B hP1 hD1 hS1 hl
theorem z_ch5 {q n i : Nat} {x : Int} {t : List Nat} {cA : ClassId} {w0 : va_W} (ht : tys[2]? = some (cA, .char)) (d1 : decode (xcc M) pc = .ok (.dup, 1)) (d2 : decode (xcc M) (pc + 1) = .ok (.iconst i, 1)) (d3 : decode (xcc M) (pc + 2) = .ok (.bipush x, 2)) (d4 : decode (xcc M) (pc + 4) = .ok (.castore, 1)) (hi : i < n) (hn : n < 2 ^ 31) (hv : (Int8.ofInt x).toInt32 = nI (t.getD i 32)) (hx0 : vp_nar .char (nI (t.getD i 32)) = nI (t.getD i 32)) (k : Zx l D tys M (pc + 5) ls (.ref q :: st) (w0 ++ [(q, .inl (cA, n, .inl (wr t (i + 1))))]) kc ks Q) : Zx l D tys M pc ls (.ref q :: st) (w0 ++ [(q, .inl (cA, n, .inl (wr t i)))]) kc ks Q :=
  z_dup d1 rfl (z_iconst d2 Int32.ofInt_eq_ofNat (z_bipush d3 hv (z_cast d4 ht hi hn hx0 k)))
theorem z_ch6 {q n i : Nat} {x : Int} {t : List Nat} {cA : ClassId} {w0 : va_W} (ht : tys[2]? = some (cA, .char)) (d1 : decode (xcc M) pc = .ok (.dup, 1)) (d2 : decode (xcc M) (pc + 1) = .ok (.bipush i, 2)) (d3 : decode (xcc M) (pc + 3) = .ok (.bipush x, 2)) (d4 : decode (xcc M) (pc + 5) = .ok (.castore, 1)) (hi : i < n) (hn : n < 2 ^ 31) (hi8 : (Int8.ofInt i).toInt32 = nI i) (hv : (Int8.ofInt x).toInt32 = nI (t.getD i 32)) (hx0 : vp_nar .char (nI (t.getD i 32)) = nI (t.getD i 32)) (k : Zx l D tys M (pc + 6) ls (.ref q :: st) (w0 ++ [(q, .inl (cA, n, .inl (wr t (i + 1))))]) kc ks Q) : Zx l D tys M pc ls (.ref q :: st) (w0 ++ [(q, .inl (cA, n, .inl (wr t i)))]) kc ks Q :=
  z_dup d1 rfl (z_bipush d2 hi8 (z_bipush d3 hv (z_cast d4 ht hi hn hx0 k)))
theorem z_conv {ws2 : va_W} (h1 : ∀ H, va_P D vwCl ws H → va_P D vwCl ws2 H) (h2 : ∀ A, va_D A ws → va_D A ws2) (k : Zx l D tys M pc ls st ws2 kc ks Q) : Zx l D tys M pc ls st ws kc ks Q := by
  intro p e s m args below meth c H locs A ls' B hP hD hS hl
  obtain ⟨hx, hb, hr, hml, hown, hts, hlocks, hK, hA, hnm, hAO⟩ := id B
  exact k p e s m args below meth c H locs A ls' B (h1 H hP) (h2 A hD) hS hl
theorem z_eqw {ws2 : va_W} (h : ws = ws2) (k : Zx l D tys M pc ls st ws2 kc ks Q) : Zx l D tys M pc ls st ws kc ks Q := h ▸ k
theorem z_ret (hd : decode (xcc M) pc = .ok (.return_, 1)) (hq : Q ws) (h1 : kc = (xrm M).cells) (h2 : ks = (xrm M).slots) : Zx l D tys M pc ls [] ws kc ks Q := by
  subst h1 h2
  intro p e s m args below meth c H locs A ls' B hP hD hS hl
  obtain ⟨hx, hb, hr, hml, hown, hts, hlocks, hK, hA, hnm, hAO⟩ := id B
  exact W.vret hx hb hr (fun t ht hW => ⟨⟨rfl, ws, hq, by rw [ht]; exact hP, hD⟩, hS.F ht⟩) hS.2.2 hd hlocks
end ZR
/-- a constructor's contract -/
theorem z_met {l : Launch} {D : va_G} {tys : zT} {M : xM} {h0 ci : Nat} {fs : List Value} {Q : va_W → Prop} (h : Zx l D tys M 0 (xent [.ref h0] (xnL M)) [] [(h0, .inr (ci, fs))] 0 0 Q) (hp : plainName (xy M).cls = true) (hr : xret M = none) (hn : 1 ≤ xnL M) (hin : (xy M).name = "<init>") (sz : Nat) : Met l (xy M) (xws M) (xrm M) (va_Pc [.ref h0] (fun U => U.heap.size = sz ∧ va_P D vwCl [(h0, .inr (ci, fs))] U.heap ∧ va_K D vwCl tys U ∧ va_D (fun _ => True) [(h0, .inr (ci, fs))] ∧ va_AO RX1 U)) (zQ D (va_A [(h0, .inr (ci, fs))] sz) Q) (xrm M).cells (xrm M).slots (va_A [(h0, .inr (ci, fs))] sz) := by
  refine Met.ofW (cc := xcc M) (maxL := xnL M) (ret := xret M) hp rfl ?_
  intro p e s m args below meth c s₁ B hml hv
  obtain ⟨rfl, hsz, hP, hK, hD0, hAO⟩ := hv
  have hts := atoms_spec (ws := xws M) B.pre
  subst hsz
  have hl := lv_entry [Value.ref h0] (n := xnL M) hn
  rw [lg_entry_eq]
  exact h p e s m _ below meth c s.heap [] (va_A [(h0, .inr (ci, fs))] s.heap.size) _ ⟨B.exec, B.bytes, B.returns.trans hr, hml, findClass_of_methodNamed B.named, fun w hw => hts w (List.mem_cons_of_mem _ hw), B.notSynchronized, hK, fun q hq => Or.inr hq, (name_of_methodNamed B.named B.method).1.trans hin, hAO⟩ hP hD0.self va_S.rf ⟨hl.1, hl.2.1, fun q hq => hl.2.2 q (xent_in (ad := id) _ [.ref h0] 0 q hq)⟩
/-- a constructor is called on the cell that was made last -/
theorem z_run {p : Program} {l : Launch} {e : Env} {R : Room} {s : State} {m : MethodId} {args : Array Value} {below : List Frame} {meth : Method} {c : Code} {cc : ByteArray} {nL : Nat} {own : String} {H : Heap} {locs : List Loc} {kc ks : Nat} {Qf : State → Prop} {D : va_G} {tys : zT} {N : xM} {idx h0 ci pc : Nat} {fs : List Value} {Q2 : va_W → Prop} {wr : va_W} {A : Nat → Prop} {ls' : Array Slot} {rest : List Value}
    (S : CallFix p m c cc nL s args gt own) (hZ : Zx l D tys N 0 (xent [.ref h0] (xnL N)) [] [(h0, .inr (ci, fs))] 0 0 Q2) (hN : plainName (xy N).cls = true ∧ xret N = none ∧ 1 ≤ xnL N ∧ (xy N).name = "<init>" ∧ Cond.initialized (xy N).cls ∈ gt ∧ Cond.code (xy N) (xcc N) (xnL N) none ∈ gt ∧ Cond.instanceMethod (xy N) ∈ gt ∧ ((xy N).cls ≠ "java/lang/invoke/MethodHandle" ∧ (xy N).cls ≠ "java/lang/invoke/VarHandle" ∧ (parseMethodDescriptor (xy N).desc).map (fun d => d.parameters.length) = some 0)) (hlk : Cond.methodLink own idx (xy N) ∈ gt) (hfit : (xrm N).frames + 1 ≤ R.frames ∧ 8 + (xnL N + 11) + (xrm N).locals ≤ R.locals)
    (hP : va_P D vwCl (wr ++ [(h0, .inr (ci, fs))]) H) (hD : va_D A (wr ++ [(h0, .inr (ci, fs))])) (hS : va_S A s.heap H locs) (hK : va_K D vwCl tys s) (hAO : va_AO RX1 s) (hA : ∀ q, s.heap.size ≤ q → A q) (hsize : ls'.size = nL) (hst : (rest.map fun v => v.category).sum ≤ 8) (hdg : decode cc pc = .ok (.invokespecial idx, 3)) (hf : kc + (xrm N).cells ≤ R.cells ∧ ks + (xrm N).slots ≤ R.slots)
    (kk : ∀ (w1 : va_W) (H1 : Heap) (locs1 : List Loc), Q2 w1 → va_P D vwCl (wr ++ w1) H1 → va_D A (wr ++ w1) → va_S A s.heap H1 locs1 → W p l e R s m args below meth c H1 locs1 (kc + (xrm N).cells) (ks + (xrm N).slots) Qf (F0 m (pc + 3) ls' rest)) : W p l e R s m args below meth c H locs kc ks Qf (F0 m pc ls' (.ref h0 :: rest)) := by
  obtain ⟨n1, n2, n3, n4, n5, n6, n7, n8⟩ := hN
  have hts := S.2.2.2.2
  have hM := z_met hZ n1 n2 n3 n4 H.size
  have ih : (wr ++ [(h0, (.inr (ci, fs) : va_E))])[wr.length]? = some (h0, .inr (ci, fs)) := by simp
  have hPc : va_P D vwCl [(h0, .inr (ci, fs))] H := fun k q hk => by
    have hz : k < 1 := (List.getElem?_eq_some_iff.mp hk).1
    rw [show k = 0 by omega] at hk
    cases hk
    exact hP _ _ ih
  have hDc : va_D (fun _ => True) [(h0, (.inr (ci, fs) : va_E))] := ⟨fun i j x y hi hj _ => by
    have hz : i < 1 := (List.getElem?_eq_some_iff.mp hi).1
    have hz2 : j < 1 := (List.getElem?_eq_some_iff.mp hj).1
    omega, fun _ _ _ => trivial⟩
  have hgood : GoodIn gt (xws N) := fun w hw => by
    rcases List.mem_cons.mp hw with e | e
    · rw [e, n2]; exact gt_gt _ n6
    · exact gt_gt w e
  have hr := va_runI (y := xy N) (bytes := xcc N) (maxL := xnL N) (ws := xws N) (rm := xrm N) (As := []) (rest := rest) (b := h0) (n := 0) (H := H) (locs := locs) (cells := kc) (slots := ks) (p := p) (l := l) (e := e) (R := R) (below := below) (meth := meth) (g := F0 m pc ls' (.ref h0 :: rest)) S hM ⟨callB_of (ws' := gt) 0 hts hgood (by show Cond.code _ _ _ (xret N) :: gt = _; rw [n2]) rfl rfl (hts _ n5) (hts _ hlk) n8 hfit, n4, hts _ n7⟩ ⟨fun a U g mk q => by obtain ⟨q0, q1, qP, qK, qD, qO⟩ := q; exact ⟨q0, q1, qP, va_K.moved (u := U) (U := U.calling g mk a) (Vm.Alike.refl U.vm) qK, qD, va_AO.moved (u := U) (U := U.calling g mk a) (Vm.Alike.refl U.vm) qO⟩, fun U hU hW => ⟨rfl, by rw [hU], by rw [hU]; exact hPc, va_K.moved hW.alike hK, hDc, va_AO.moved hW.alike hAO⟩⟩ rfl rfl hsize rfl (lv_room hst) hdg hf
  have hA1 : ∀ q, va_A [(h0, (.inr (ci, fs) : va_E))] H.size q → q = h0 ∨ H.size ≤ q := fun q hq => by
    rcases hq with ⟨k, e, hk⟩ | hq
    · have hz : k < 1 := (List.getElem?_eq_some_iff.mp hk).1
      rw [show k = 0 by omega] at hk
      cases hk
      exact Or.inl rfl
    · exact Or.inr hq
  have hsub : ∀ q, va_A [(h0, (.inr (ci, fs) : va_E))] H.size q → A q := fun q hq => by
    rcases hA1 q hq with e | e
    · rw [e]; exact hD.2 _ _ ih
    · exact hA q (Nat.le_trans hS.1 e)
  have hwr : ∀ (k : Nat) (q : Nat × va_E), wr[k]? = some q → k < wr.length ∧ (wr ++ [(h0, (.inr (ci, fs) : va_E))])[k]? = some q := fun k q hk => by
    have h1 := (List.getElem?_eq_some_iff.mp hk).1
    exact ⟨h1, by rw [List.getElem?_append_left h1]; exact hk⟩
  have hap : ∀ (k : Nat) (q : Nat × va_E), wr[k]? = some q → q.1 < H.size ∧ ¬ va_A [(h0, (.inr (ci, fs) : va_E))] H.size q.1 := fun k q hk => by
    obtain ⟨h1, h2⟩ := hwr k q hk
    have hlt := (hP k q h2).lt
    refine ⟨hlt, fun z => ?_⟩
    rcases hA1 _ z with e | e
    · have := hD.1 k wr.length q _ h2 ih e
      omega
    · omega
  intro T hT X
  obtain ⟨v, st₀, t, T', L, e0, X', hL, e1, e2, ⟨⟨hv, w1, hq, hP1, hD1⟩, hz, hk⟩, st⟩ := hr T hT X
  cases hv
  rw [e0] at hz hk
  have j1 : va_P D vwCl (wr ++ w1) T'.heap := by
    rw [e1]
    exact va_P.app (fun k q hq => (hP k q (hwr k q hq).2).kept (hk q.1 (hap k q hq).1 (hap k q hq).2)) hP1
  have j2 : va_D A (wr ++ w1) := va_D.app ⟨fun i j x y hi hj hxy => hD.1 i j x y (hwr i x hi).2 (hwr j y hj).2 hxy, fun k q hq => hD.2 k q (hwr k q hq).2⟩ (hD1.weaken (fun k q _ h => hsub q.1 h)) (fun i j x y hx hy hxy => (hap i x hx).2 (by rw [hxy]; exact hD1.2 j y hy))
  obtain ⟨t2, a1, b1⟩ := kk w1 T'.heap (locs ++ L) hq j1 j2
    ⟨Nat.le_trans hS.1 (by rw [e1]; exact hz), fun q h1 h2 => by rw [e1, hk q (Nat.lt_of_lt_of_le h1 hS.1) (fun z => h2 (hsub q z))]; exact hS.2.1 q h1 h2, fun q hq => by
      rcases List.mem_append.mp hq with h | h
      · exact hS.2.2 q h
      · exact hsub _ (hL q h)⟩ T' rfl X'
  exact ⟨t2, st t2 a1, b1⟩
theorem z_call {l : Launch} {D : va_G} {tys : zT} {M N : xM} {pc idx h0 ci kc ks kc2 ks2 : Nat} {ls : List (Option Value)} {st : List Value} {fs : List Value} {wr : va_W} {Q Q2 : va_W → Prop} (hd : decode (xcc M) pc = .ok (.invokespecial idx, 3)) (hZ : Zx l D tys N 0 (xent [.ref h0] (xnL N)) [] [(h0, .inr (ci, fs))] 0 0 Q2) (hN : plainName (xy N).cls = true ∧ xret N = none ∧ 1 ≤ xnL N ∧ (xy N).name = "<init>" ∧ Cond.initialized (xy N).cls ∈ gt ∧ Cond.code (xy N) (xcc N) (xnL N) none ∈ gt ∧ Cond.instanceMethod (xy N) ∈ gt ∧ ((xy N).cls ≠ "java/lang/invoke/MethodHandle" ∧ (xy N).cls ≠ "java/lang/invoke/VarHandle" ∧ (parseMethodDescriptor (xy N).desc).map (fun d => d.parameters.length) = some 0)) (hlk : Cond.methodLink (xy M).cls idx (xy N) ∈ gt) (hfit : (xrm N).frames + 1 ≤ (xrm M).frames ∧ 8 + (xnL N + 11) + (xrm N).locals ≤ (xrm M).locals) (hst : (st.map fun v => v.category).sum ≤ 8) (h1 : kc + (xrm N).cells = kc2) (h2 : ks + (xrm N).slots = ks2) (g1 : kc2 ≤ (xrm M).cells) (g2 : ks2 ≤ (xrm M).slots) (k : ∀ w1, Q2 w1 → Zx l D tys M (pc + 3) ls st (wr ++ w1) kc2 ks2 Q) : Zx l D tys M pc ls (.ref h0 :: st) (wr ++ [(h0, .inr (ci, fs))]) kc ks Q := by
  intro p e s m args below meth c H locs A ls' B hP hD hS hl
  obtain ⟨hx, hb, hr, hml, hown, hts, hlocks, hK, hA, hnm, hAO⟩ := id B
  subst h1 h2
  exact z_run (own := (xy M).cls) ⟨hx, hb, hml, hown, hts⟩ hZ hN hlk hfit hP hD hS hK hAO hA hl.1 hst hd ⟨g1, g2⟩ (fun w1 H1 locs1 hq hP1 hD1 hS1 => k w1 hq p e s m args below meth c H1 locs1 A ls' B hP1 hD1 hS1 hl)
