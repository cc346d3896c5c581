/-! THE HEAP AS NUMBERS: cell k holds at place i the int s.1 k i or the long s.2 k i; what a cell is (its class, its references) stands fast in a shape. -/
abbrev xH : Type := (Nat → Nat → Int32) × (Nat → Nat → Int64)
/-- a field: an int, a long, a reference to a cell -/
abbrev xF : Type := Bool ⊕ Nat
/-- a cell: an array (0 ints, 1 longs, 2 chars, 3 references first + step * j), its length; or an object: its class's number, its fields -/
abbrev xC : Type := (Nat × Nat × Nat × Nat) ⊕ (Nat × List xF)
/-- a world: shapes, addresses, the tables' numbers, the array classes, the third array class's type -/
abbrev xW : Type := List xC × (Nat → Nat) × va_G × (Nat → ClassId) × FieldType
/-- a method: its name, code, locals, answer's type, room -/
abbrev xM : Type := MethodName × ByteArray × Nat × Option FieldType × Room
abbrev xsh (Ω : xW) : List xC := Ω.1
abbrev xad (Ω : xW) : Nat → Nat := Ω.2.1
abbrev xD (Ω : xW) : va_G := Ω.2.2.1
abbrev xcy (Ω : xW) : Nat → ClassId := Ω.2.2.2.1
abbrev xt2 (Ω : xW) : FieldType := Ω.2.2.2.2
abbrev xy (M : xM) : MethodName := M.1
abbrev xcc (M : xM) : ByteArray := M.2.1
abbrev xnL (M : xM) : Nat := M.2.2.1
abbrev xret (M : xM) : Option FieldType := M.2.2.2.1
abbrev xrm (M : xM) : Room := M.2.2.2.2
/-- the room of a method below which n calls stand open -/
abbrev xR (n : Nat) : Room := { frames := n, cells := 0, slots := 0, locals := 36 * n }
def xv (ad : Nat → Nat) (v : Value) : Value := match v with
  | .ref k => .ref (ad k)
  | v => v
def xfv (ad : Nat → Nat) (σ : xH) (k i : Nat) (f : xF) : Value := match f with
  | .inl false => .int (σ.1 k i)
  | .inl true => .long (σ.2 k i)
  | .inr r => .ref (ad r)
def xce (ad : Nat → Nat) (cy : Nat → ClassId) (σ : xH) (k : Nat) (e : xC) : va_E := match e with
  | .inl (0, n, _, _) => .inl (cy 0, n, .inl (σ.1 k))
  | .inl (1, n, _, _) => .inl (cy 1, n, .inr (.inl (σ.2 k)))
  | .inl (2, n, _, _) => .inl (cy 2, n, .inl (σ.1 k))
  | .inl (_, n, b, t) => .inl (cy 2, n, .inr (.inr (.inr (.inr (fun j => some (ad (b + t * j)))))))
  | .inr (ci, fs) => .inr (ci, fs.mapIdx (fun i f => xfv ad σ k i f))
def xw (Ω : xW) (σ : xH) : va_W := (xsh Ω).mapIdx (fun k e => (xad Ω k, xce (xad Ω) (xcy Ω) σ k e))
abbrev xtys (Ω : xW) : List (ClassId × FieldType) := [(xcy Ω 0, .int), (xcy Ω 1, .long), (xcy Ω 2, xt2 Ω)]
theorem xw_get {Ω : xW} {σ : xH} {k : Nat} {e : xC} (h : (xsh Ω)[k]? = some e) : (xw Ω σ)[k]? = some (xad Ω k, xce (xad Ω) (xcy Ω) σ k e) := by
  unfold xw
  rw [List.getElem?_mapIdx, h]
  rfl
theorem xce_congr {ad : Nat → Nat} {cy : Nat → ClassId} {σ τ : xH} {k : Nat} (e : xC) (h1 : σ.1 k = τ.1 k) (h2 : σ.2 k = τ.2 k) : xce ad cy σ k e = xce ad cy τ k e := by
  have hf : ∀ i f, xfv ad σ k i f = xfv ad τ k i f := by
    intro i f
    rcases f with b | r
    · cases b
      · simp only [xfv, h1]
      · simp only [xfv, h2]
    · rfl
  unfold xce
  split
  · rw [h1]
  · rw [h2]
  · rw [h1]
  · rfl
  · simp only [hf]
theorem xw_set {Ω : xW} {σ τ : xH} {k : Nat} {e : xC} (h : (xsh Ω)[k]? = some e) (h1 : ∀ j, j ≠ k → σ.1 j = τ.1 j) (h2 : ∀ j, j ≠ k → σ.2 j = τ.2 j) : (xw Ω σ).set k (xad Ω k, xce (xad Ω) (xcy Ω) τ k e) = xw Ω τ := by
  apply List.ext_getElem?
  intro j
  unfold xw
  rw [List.getElem?_set]
  by_cases hj : k = j
  · subst hj
    have hlt : k < (xsh Ω).length := (List.getElem?_eq_some_iff.mp h).1
    have he : (xsh Ω)[k] = e := (List.getElem?_eq_some_iff.mp h).2
    simp [List.getElem?_mapIdx, h, hlt, he]
  · rw [if_neg hj, List.getElem?_mapIdx, List.getElem?_mapIdx]
    cases hq : (xsh Ω)[j]? with
    | none => rfl
    | some q => simp only [Option.map_some, xce_congr q (h1 j (Ne.symm hj)) (h2 j (Ne.symm hj))]
/-- a row of ints, of longs anew -/
def xui (σ : xH) (k : Nat) (f : Nat → Int32) : xH := (fun a => if a = k then f else σ.1 a, σ.2)
def xul (σ : xH) (k : Nat) (f : Nat → Int64) : xH := (σ.1, fun a => if a = k then f else σ.2 a)
/-- one place anew -/
abbrev xpi (σ : xH) (k i : Nat) (v : Int32) : xH := xui σ k (upd (σ.1 k) i v)
abbrev xpl (σ : xH) (k i : Nat) (v : Int64) : xH := xul σ k (vp_updL (σ.2 k) i v)
theorem xui_ne (σ : xH) (k : Nat) (f : Nat → Int32) : ∀ j, j ≠ k → σ.1 j = (xui σ k f).1 j := fun j h => by simp [xui, h]
theorem xul_ne (σ : xH) (k : Nat) (f : Nat → Int64) : ∀ j, j ≠ k → σ.2 j = (xul σ k f).2 j := fun j h => by simp [xul, h]
/-! locals: a list by slots, none where nothing is known -/
def xLoc (ad : Nat → Nat) : Nat → List (Option Value) → List (Nat × Value)
  | _, [] => []
  | i, none :: t => xLoc ad (i + 1) t
  | i, some v :: t => (i, xv ad v) :: xLoc ad (i + 1) t
def xlg (v : Option Value) : Bool := match v with
  | some (.long _) => true
  | some (.double _) => true
  | _ => false
def xs1 (v : Value) : Nat → List (Option Value) → List (Option Value)
  | _, [] => []
  | 0, _ :: t => some v :: t
  | 1, a :: t => (if xlg a then none else a) :: xs1 v 0 t
  | i + 2, a :: t => a :: xs1 v (i + 1) t
def xs2 (v : Value) : Nat → List (Option Value) → List (Option Value)
  | _, [] => []
  | 0, _ :: [] => []
  | 0, _ :: _ :: t => some v :: none :: t
  | 1, a :: t => (if xlg a then none else a) :: xs2 v 0 t
  | i + 2, a :: t => a :: xs2 v (i + 1) t
theorem xLoc_at {ad : Nat → Nat} : ∀ (ls : List (Option Value)) (b i : Nat) (v : Value), ls[i]? = some (some v) → (b + i, xv ad v) ∈ xLoc ad b ls := by
  intro ls
  induction ls with
  | nil => intro b i v h; simp at h
  | cons a t ih =>
    intro b i v h
    cases i with
    | zero =>
      simp at h
      subst h
      simp [xLoc]
    | succ i =>
      have h2 : t[i]? = some (some v) := by simpa using h
      have := ih (b + 1) i v h2
      rw [show b + (i + 1) = b + 1 + i by omega]
      cases a with
      | none => exact this
      | some a => exact List.mem_cons_of_mem _ this
theorem xLoc_ge {ad : Nat → Nat} : ∀ (ls : List (Option Value)) (b : Nat) (q : Nat × Value), q ∈ xLoc ad b ls → b ≤ q.1 := by
  intro ls
  induction ls with
  | nil => intro b q h; simp [xLoc] at h
  | cons a t ih =>
    intro b q h
    cases a with
    | none => have := ih (b + 1) q h; omega
    | some a =>
      rcases List.mem_cons.mp h with h | h
      · subst h; exact Nat.le_refl _
      · have := ih (b + 1) q h; omega
theorem xlg_cat {ad : Nat → Nat} {v : Value} (h : ¬ xlg (some v) = true) : ¬ (xv ad v).category = 2 := by
  cases v <;> simp_all [xlg, xv, Value.category]
theorem xs1_in {ad : Nat → Nat} (v : Value) : ∀ (ls : List (Option Value)) (i b : Nat) (q : Nat × Value), q ∈ xLoc ad b (xs1 v i ls) → q = (b + i, xv ad v) ∨ (q ∈ xLoc ad b ls ∧ q.1 ≠ b + i ∧ ¬ (q.1 + 1 = b + i ∧ q.2.category = 2)) := by
  intro ls
  induction ls with
  | nil => intro i b q h; simp [xs1, xLoc] at h
  | cons a t ih =>
    intro i b q h
    match i, h with
    | 0, h =>
      have h0 : q ∈ (b, xv ad v) :: xLoc ad (b + 1) t := h
      clear h
      rcases List.mem_cons.mp h0 with g | g
      · exact Or.inl g
      · have hg := xLoc_ge _ _ _ g
        refine Or.inr ⟨?_, by omega, fun z => by omega⟩
        cases a with
        | none => exact g
        | some a => exact List.mem_cons_of_mem _ g
    | 1, h =>
      have h : q ∈ xLoc ad b ((if xlg a then none else a) :: xs1 v 0 t) := h
      have rest : q ∈ xLoc ad (b + 1) (xs1 v 0 t) → q = (b + 1, xv ad v) ∨ (q ∈ xLoc ad b (a :: t) ∧ q.1 ≠ b + 1 ∧ ¬ (q.1 + 1 = b + 1 ∧ q.2.category = 2)) := by
        intro h
        rcases ih 0 (b + 1) q h with e | ⟨e1, e2, e3⟩
        · exact Or.inl e
        · have hg := xLoc_ge _ _ _ e1
          refine Or.inr ⟨?_, by omega, fun z => by omega⟩
          cases a with
          | none => exact e1
          | some a => exact List.mem_cons_of_mem _ e1
      by_cases hl : xlg a = true
      · rw [if_pos hl] at h
        exact rest h
      · rw [if_neg hl] at h
        cases a with
        | none => exact rest h
        | some a =>
          rcases List.mem_cons.mp h with e | e
          · subst e
            refine Or.inr ⟨List.mem_cons_self, by show b ≠ b + 1; omega, fun z => xlg_cat hl z.2⟩
          · exact rest e
    | i + 2, h =>
      have h : q ∈ xLoc ad b (a :: xs1 v (i + 1) t) := h
      have rest : q ∈ xLoc ad (b + 1) (xs1 v (i + 1) t) → q = (b + (i + 2), xv ad v) ∨ (q ∈ xLoc ad b (a :: t) ∧ q.1 ≠ b + (i + 2) ∧ ¬ (q.1 + 1 = b + (i + 2) ∧ q.2.category = 2)) := by
        intro h
        rcases ih (i + 1) (b + 1) q h with e | ⟨e1, e2, e3⟩
        · exact Or.inl (by rw [e]; congr 1; omega)
        · refine Or.inr ⟨?_, by omega, fun z => e3 ⟨by omega, z.2⟩⟩
          cases a with
          | none => exact e1
          | some a => exact List.mem_cons_of_mem _ e1
      cases a with
      | none => exact rest h
      | some a =>
        rcases List.mem_cons.mp h with e | e
        · subst e
          exact Or.inr ⟨List.mem_cons_self, by show b ≠ b + (i + 2); omega, fun z => by have : b + 1 = b + (i + 2) := z.1; omega⟩
        · exact rest e
theorem xs2_in {ad : Nat → Nat} (v : Value) : ∀ (ls : List (Option Value)) (i b : Nat) (q : Nat × Value), q ∈ xLoc ad b (xs2 v i ls) → q = (b + i, xv ad v) ∨ (q ∈ xLoc ad b ls ∧ q.1 ≠ b + i ∧ q.1 ≠ b + i + 1 ∧ ¬ (q.1 + 1 = b + i ∧ q.2.category = 2)) := by
  intro ls
  induction ls with
  | nil => intro i b q h; simp [xs2, xLoc] at h
  | cons a t ih =>
    intro i b q h
    match i, h with
    | 0, h =>
      match t, h with
      | [], h => simp [xs2, xLoc] at h
      | a2 :: t, h =>
        have h0 : q ∈ (b, xv ad v) :: xLoc ad (b + 1 + 1) t := h
        clear h
        rcases List.mem_cons.mp h0 with g | g
        · exact Or.inl g
        · have hg := xLoc_ge _ _ _ g
          refine Or.inr ⟨?_, by omega, by omega, fun z => by omega⟩
          cases a with
          | none =>
            cases a2 with
            | none => exact g
            | some a2 => exact List.mem_cons_of_mem _ g
          | some a =>
            refine List.mem_cons_of_mem _ ?_
            cases a2 with
            | none => exact g
            | some a2 => exact List.mem_cons_of_mem _ g
    | 1, h =>
      have h : q ∈ xLoc ad b ((if xlg a then none else a) :: xs2 v 0 t) := by rw [xs2] at h; exact h
      have rest : q ∈ xLoc ad (b + 1) (xs2 v 0 t) → q = (b + 1, xv ad v) ∨ (q ∈ xLoc ad b (a :: t) ∧ q.1 ≠ b + 1 ∧ q.1 ≠ b + 1 + 1 ∧ ¬ (q.1 + 1 = b + 1 ∧ q.2.category = 2)) := by
        intro h
        rcases ih 0 (b + 1) q h with e | ⟨e1, e2, e3, e4⟩
        · exact Or.inl e
        · have hg := xLoc_ge _ _ _ e1
          refine Or.inr ⟨?_, by omega, by omega, fun z => by omega⟩
          cases a with
          | none => exact e1
          | some a => exact List.mem_cons_of_mem _ e1
      by_cases hl : xlg a = true
      · rw [if_pos hl] at h
        exact rest h
      · rw [if_neg hl] at h
        cases a with
        | none => exact rest h
        | some a =>
          rcases List.mem_cons.mp h with e | e
          · subst e
            refine Or.inr ⟨List.mem_cons_self, by show b ≠ b + 1; omega, by show b ≠ b + 1 + 1; omega, fun z => xlg_cat hl z.2⟩
          · exact rest e
    | i + 2, h =>
      have h : q ∈ xLoc ad b (a :: xs2 v (i + 1) t) := by rw [xs2] at h; exact h
      have rest : q ∈ xLoc ad (b + 1) (xs2 v (i + 1) t) → q = (b + (i + 2), xv ad v) ∨ (q ∈ xLoc ad b (a :: t) ∧ q.1 ≠ b + (i + 2) ∧ q.1 ≠ b + (i + 2) + 1 ∧ ¬ (q.1 + 1 = b + (i + 2) ∧ q.2.category = 2)) := by
        intro h
        rcases ih (i + 1) (b + 1) q h with e | ⟨e1, e2, e3, e4⟩
        · exact Or.inl (by rw [e]; congr 1; omega)
        · refine Or.inr ⟨?_, by omega, by omega, fun z => e4 ⟨by omega, z.2⟩⟩
          cases a with
          | none => exact e1
          | some a => exact List.mem_cons_of_mem _ e1
      cases a with
      | none => exact rest h
      | some a =>
        rcases List.mem_cons.mp h with e | e
        · subst e
          exact Or.inr ⟨List.mem_cons_self, by show b ≠ b + (i + 2); omega, by show b ≠ b + (i + 2) + 1; omega, fun z => by have : b + 1 = b + (i + 2) := z.1; omega⟩
        · exact rest e
theorem xhas1 {ad : Nat → Nat} {ls' : Array Slot} {nL i : Nat} {v : Value} {ls : List (Option Value)} (h : lv_has ls' nL ((i, xv ad v) :: (xLoc ad 0 ls).filter (fun q => !(q.1 == i) && !(q.1 + 1 == i && q.2.category == 2)))) : lv_has ls' nL (xLoc ad 0 (xs1 v i ls)) := by
  refine ⟨h.1, h.2.1, fun q hq => h.2.2 q ?_⟩
  rcases xs1_in v ls i 0 q hq with e | ⟨e1, e2, e3⟩
  · rw [e, Nat.zero_add]
    exact List.mem_cons_self
  · refine List.mem_cons_of_mem _ (List.mem_filter.mpr ⟨e1, ?_⟩)
    rw [Nat.zero_add] at e2 e3
    simp only [Bool.and_eq_true, Bool.not_eq_true', beq_eq_false_iff_ne, ne_eq, Bool.and_eq_false_iff]
    refine ⟨e2, ?_⟩
    by_cases hz : q.1 + 1 = i
    · exact Or.inr (fun z => e3 ⟨hz, z⟩)
    · exact Or.inl hz
theorem xhas2 {ad : Nat → Nat} {ls' : Array Slot} {nL i : Nat} {v : Value} {ls : List (Option Value)} (h : lv_has ls' nL ((i, xv ad v) :: (xLoc ad 0 ls).filter (fun q => !(q.1 == i) && (!(q.1 == i + 1) && !(q.1 + 1 == i && q.2.category == 2))))) : lv_has ls' nL (xLoc ad 0 (xs2 v i ls)) := by
  refine ⟨h.1, h.2.1, fun q hq => h.2.2 q ?_⟩
  rcases xs2_in v ls i 0 q hq with e | ⟨e1, e2, e3, e4⟩
  · rw [e, Nat.zero_add]
    exact List.mem_cons_self
  · refine List.mem_cons_of_mem _ (List.mem_filter.mpr ⟨e1, ?_⟩)
    rw [Nat.zero_add] at e2 e3 e4
    simp only [Bool.and_eq_true, Bool.not_eq_true', beq_eq_false_iff_ne, ne_eq, Bool.and_eq_false_iff]
    refine ⟨e2, e3, ?_⟩
    by_cases hz : q.1 + 1 = i
    · exact Or.inr (fun z => e4 ⟨hz, z⟩)
    · exact Or.inl hz
theorem xat {ad : Nat → Nat} {ls' : Array Slot} {nL i : Nat} {v : Value} {ls : List (Option Value)} (h : lv_has ls' nL (xLoc ad 0 ls)) (hi : ls[i]? = some (some v)) : ls'[i]? = some (.val (xv ad v)) := by
  have := h.2.2 _ (xLoc_at (ad := ad) ls 0 i v hi)
  simpa using this
/-! the locals with which a method begins -/
def xarg : List Value → List (Option Value)
  | [] => []
  | v :: t => if v.category = 2 then some v :: none :: xarg t else some v :: xarg t
abbrev xent (as : List Value) (n : Nat) : List (Option Value) := xarg as ++ List.replicate (n - (xarg as).length) none
theorem xv_cat (ad : Nat → Nat) (v : Value) : (xv ad v).category = v.category := by cases v <;> rfl
theorem xLoc_none {ad : Nat → Nat} : ∀ (n b : Nat), xLoc ad b (List.replicate n none) = [] := by
  intro n
  induction n with
  | zero => intro b; rfl
  | succ n ih => intro b; exact ih (b + 1)
theorem xent_in {ad : Nat → Nat} (n : Nat) : ∀ (as : List Value) (b : Nat) (q : Nat × Value), q ∈ xLoc ad b (xarg as ++ List.replicate n none) → q ∈ lv_args b (as.map (xv ad)) := by
  intro as
  induction as with
  | nil =>
    intro b q h
    rw [xarg, List.nil_append, xLoc_none] at h
    exact absurd h List.not_mem_nil
  | cons v t ih =>
    intro b q h
    rw [List.map_cons, lv_args, xv_cat]
    rw [xarg] at h
    by_cases hc : v.category = 2
    · rw [if_pos hc] at h ⊢
      rcases List.mem_cons.mp h with h | h
      · rw [h]; exact List.mem_cons_self
      · exact List.mem_cons_of_mem _ (ih (b + 1 + 1) q h)
    · rw [if_neg hc] at h ⊢
      rcases List.mem_cons.mp h with h | h
      · rw [h]; exact List.mem_cons_self
      · exact List.mem_cons_of_mem _ (ih (b + 1) q h)
