def xb (P : Prop) [Decidable P] : Int32 := if P then nI 1 else nI 0
theorem xb_t {P : Prop} [Decidable P] (h : P) : xb P = 1 := if_pos h
theorem xb_f {P : Prop} [Decidable P] (h : ¬ P) : xb P = 0 := if_neg h
/-- an answer under another name -/
theorem xki {K : Int32 → xH → Prop} {x y : Int32} {σ : xH} (e : x = y) (h : K y σ) : K x σ := e ▸ h
theorem xti {n : Nat} (h : n < 2147483648) : (nI n).toInt = (n : Int) := nI_toInt h
theorem xb_01 (P : Prop) [Decidable P] : xb P = 0 ∨ xb P = 1 := by
  by_cases h : P
  · exact Or.inr (xb_t h)
  · exact Or.inl (xb_f h)
/-- a run whose answer is an int, a long, nothing -/
def xQi (K : Int32 → xH → Prop) : Option Value → xH → Prop := fun r τ => ∃ x, r = some (.int x) ∧ K x τ
def xQl (K : Int64 → xH → Prop) : Option Value → xH → Prop := fun r τ => ∃ x, r = some (.long x) ∧ K x τ
def xQv (K : xH → Prop) : Option Value → xH → Prop := fun r τ => r = none ∧ K τ
abbrev Evi (l : Launch) (Ω : xW) (M : xM) (as : List Value) (σ : xH) (K : Int32 → xH → Prop) : Prop := Ev l Ω M as σ (xQi K)
abbrev Evl (l : Launch) (Ω : xW) (M : xM) (as : List Value) (σ : xH) (K : Int64 → xH → Prop) : Prop := Ev l Ω M as σ (xQl K)
abbrev Evv (l : Launch) (Ω : xW) (M : xM) (as : List Value) (σ : xH) (K : xH → Prop) : Prop := Ev l Ω M as σ (xQv K)
theorem vi_mono {l : Launch} {Ω : xW} {M : xM} {as : List Value} {σ : xH} {K K' : Int32 → xH → Prop} (h : Evi l Ω M as σ K) (hq : ∀ x τ, K x τ → K' x τ) : Evi l Ω M as σ K' := v_mono h (fun _ τ ⟨x, e, k⟩ => ⟨x, e, hq x τ k⟩)
theorem vv_mono {l : Launch} {Ω : xW} {M : xM} {as : List Value} {σ : xH} {K K' : xH → Prop} (h : Evv l Ω M as σ K) (hq : ∀ τ, K τ → K' τ) : Evv l Ω M as σ K' := v_mono h (fun _ τ ⟨e, k⟩ => ⟨e, hq τ k⟩)
def xprev : Nat → List (Option Value) → Bool
  | 0, _ => true
  | _, [] => true
  | 1, a :: _ => !(xlg a)
  | i + 2, _ :: t => xprev (i + 1) t
theorem xs1_set : ∀ (ls : List (Option Value)) (i : Nat) (v : Value), xprev i ls = true → xs1 v i ls = ls.set i (some v) := by
  intro ls
  induction ls with
  | nil => intro i v _; cases i <;> rfl
  | cons a t ih =>
    intro i v h
    match i, h with
    | 0, _ => rfl
    | 1, h =>
      have h : (!(xlg a)) = true := h
      have h : xlg a = false := by simpa using h
      show (if xlg a then none else a) :: xs1 v 0 t = a :: t.set 0 (some v)
      rw [ih 0 v (by cases t <;> rfl), h]
      rfl
    | i + 2, h => exact congrArg (a :: ·) (ih (i + 1) v h)
/-- some values are forgotten -/
def xmask : List Bool → List (Option Value) → List (Option Value)
  | [], ls => ls
  | _, [] => []
  | true :: m, a :: t => a :: xmask m t
  | false :: m, _ :: t => none :: xmask m t
theorem xmask_in {ad : Nat → Nat} : ∀ (m : List Bool) (ls : List (Option Value)) (b : Nat) (q : Nat × Value), q ∈ xLoc ad b (xmask m ls) → q ∈ xLoc ad b ls := by
  intro m
  induction m with
  | nil => intro ls b q h; exact h
  | cons x m ih =>
    intro ls b q h
    cases ls with
    | nil => exact h
    | cons a t =>
      cases x with
      | true =>
        have h : q ∈ xLoc ad b (a :: xmask m t) := h
        cases a with
        | none => exact ih t (b + 1) q h
        | some a =>
          rcases List.mem_cons.mp h with h | h
          · rw [h]; exact List.mem_cons_self
          · exact List.mem_cons_of_mem _ (ih t (b + 1) q h)
      | false =>
        have h : q ∈ xLoc ad (b + 1) (xmask m t) := h
        cases a with
        | none => exact ih t (b + 1) q h
        | some a => exact List.mem_cons_of_mem _ (ih t (b + 1) q h)
section XN
variable {l : Launch} {Ω : xW} {M N : xM} {pc idx : Nat} {ls : List (Option Value)} {st : List Value} {σ : xH} {Q Q2 : Option Value → xH → Prop}
theorem x_mask (m : List Bool) (k : Ex l Ω M pc (xmask m ls) st σ Q) : Ex l Ω M pc ls st σ Q := by
  intro p e s m' args below meth c H locs A ls' B hP hD hS hl
  exact k p e s m' args below meth c H locs A ls' B hP hD hS ⟨hl.1, hl.2.1, fun q hq => hl.2.2 q (xmask_in m ls 0 q hq)⟩
theorem y_istore_n {j : Fin 4} {i : Nat} {x : Int32} {ls2 : List (Option Value)} (hd : decode (xcc M) pc = .ok (.istore_n j, 1)) (hi : (j : Nat) = i) (hn : i < xnL M) (hp : xprev i ls = true) (hs : ls.set i (some (.int x)) = ls2) (k : Ex l Ω M (pc + 1) ls2 st σ Q) : Ex l Ω M pc ls (.int x :: st) σ Q := x_istore_n hd hi hn ((xs1_set _ _ _ hp).trans hs) k
theorem y_istore {i : Nat} {x : Int32} {ls2 : List (Option Value)} (hd : decode (xcc M) pc = .ok (.istore i, 2)) (hn : i < xnL M) (hp : xprev i ls = true) (hs : ls.set i (some (.int x)) = ls2) (k : Ex l Ω M (pc + 2) ls2 st σ Q) : Ex l Ω M pc ls (.int x :: st) σ Q := x_istore hd hn ((xs1_set _ _ _ hp).trans hs) k
theorem y_astore_n {j : Fin 4} {i : Nat} {x : Nat} {ls2 : List (Option Value)} (hd : decode (xcc M) pc = .ok (.astore_n j, 1)) (hi : (j : Nat) = i) (hn : i < xnL M) (hp : xprev i ls = true) (hs : ls.set i (some (.ref x)) = ls2) (k : Ex l Ω M (pc + 1) ls2 st σ Q) : Ex l Ω M pc ls (.ref x :: st) σ Q := x_astore_n hd hi hn ((xs1_set _ _ _ hp).trans hs) k
theorem y_astore {i : Nat} {x : Nat} {ls2 : List (Option Value)} (hd : decode (xcc M) pc = .ok (.astore i, 2)) (hn : i < xnL M) (hp : xprev i ls = true) (hs : ls.set i (some (.ref x)) = ls2) (k : Ex l Ω M (pc + 2) ls2 st σ Q) : Ex l Ω M pc ls (.ref x :: st) σ Q := x_astore hd hn ((xs1_set _ _ _ hp).trans hs) k
theorem y_iinc {i : Nat} {n : Int} {x v : Int32} {ls2 : List (Option Value)} (hd : decode (xcc M) pc = .ok (.iinc i n, 3)) (hv : ls[i]? = some (some (.int x))) (he : x + Int32.ofInt n = v) (hn : i < xnL M) (hp : xprev i ls = true) (hs : ls.set i (some (.int v)) = ls2) (k : Ex l Ω M (pc + 3) ls2 st σ Q) : Ex l Ω M pc ls st σ Q := x_iinc hd hv he hn ((xs1_set _ _ _ hp).trans hs) k
theorem y_iincN {i a : Nat} {ls2 : List (Option Value)} (hd : decode (xcc M) pc = .ok (.iinc i 1, 3)) (hv : ls[i]? = some (some (.int (nI a)))) (hn : i < xnL M) (hp : xprev i ls = true) (hs : ls.set i (some (.int (nI (a + 1)))) = ls2) (k : Ex l Ω M (pc + 3) ls2 st σ Q) : Ex l Ω M pc ls st σ Q := y_iinc hd hv (by rw [nI_succ]; rfl) hn hp hs k
theorem y_iincD {i a : Nat} {ls2 : List (Option Value)} (hd : decode (xcc M) pc = .ok (.iinc i (-1), 3)) (hv : ls[i]? = some (some (.int (nI (a + 1))))) (hn : i < xnL M) (hp : xprev i ls = true) (hs : ls.set i (some (.int (nI a))) = ls2) (k : Ex l Ω M (pc + 3) ls2 st σ Q) : Ex l Ω M pc ls st σ Q := y_iinc hd hv (pk_m1 a) hn hp hs k
theorem x_ireti {v : Int32} {K : Int32 → xH → Prop} (hd : decode (xcc M) pc = .ok (.ireturn, 1)) (hr : xret M = some .int) (hq : K v σ) : Ex l Ω M pc ls [.int v] σ (xQi K) := x_iret hd hr ⟨v, rfl, hq⟩
theorem x_iretz {v : Int32} {K : Int32 → xH → Prop} (hd : decode (xcc M) pc = .ok (.ireturn, 1)) (hr : xret M = some .boolean) (hn : v = 0 ∨ v = 1) (hq : K v σ) : Ex l Ω M pc ls [.int v] σ (xQi K) := x_zret hd hr hn ⟨v, rfl, hq⟩
theorem x_retl {v : Int64} {K : Int64 → xH → Prop} (hd : decode (xcc M) pc = .ok (.lreturn, 1)) (hr : xret M = some .long) (hq : K v σ) : Ex l Ω M pc ls [.long v] σ (xQl K) := x_lret hd hr ⟨v, rfl, hq⟩
theorem x_retv {K : xH → Prop} (hd : decode (xcc M) pc = .ok (.return_, 1)) (hr : xret M = none) (hq : K σ) : Ex l Ω M pc ls [] σ (xQv K) := x_vret hd hr ⟨rfl, hq⟩
theorem x_iconstN {n : Nat} (hd : decode (xcc M) pc = .ok (.iconst n, 1)) (k : Ex l Ω M (pc + 1) ls (.int (nI n) :: st) σ Q) : Ex l Ω M pc ls st σ Q := x_iconst hd (Int32.ofInt_eq_ofNat) k
theorem x_iaddN {a b : Nat} (hd : decode (xcc M) pc = .ok (.iadd, 1)) (k : Ex l Ω M (pc + 1) ls (.int (nI (a + b)) :: st) σ Q) : Ex l Ω M pc ls (.int (nI b) :: .int (nI a) :: st) σ Q := x_iadd hd (by rw [nI_add]; exact k)
theorem x_imulN {a b : Nat} (hd : decode (xcc M) pc = .ok (.imul, 1)) (k : Ex l Ω M (pc + 1) ls (.int (nI (a * b)) :: st) σ Q) : Ex l Ω M pc ls (.int (nI b) :: .int (nI a) :: st) σ Q := x_imul hd (by rw [pk_mul]; exact k)
theorem x_isubN {a b : Nat} (h : b ≤ a) (hd : decode (xcc M) pc = .ok (.isub, 1)) (k : Ex l Ω M (pc + 1) ls (.int (nI (a - b)) :: st) σ Q) : Ex l Ω M pc ls (.int (nI b) :: .int (nI a) :: st) σ Q := x_isub hd (by rw [pk_sub h]; exact k)
theorem x_idivN {a b : Nat} (ha : a < 2 ^ 31) (h0 : 0 < b) (hb : b < 2 ^ 31) (hd : decode (xcc M) pc = .ok (.idiv, 1)) (k : Ex l Ω M (pc + 1) ls (.int (nI (a / b)) :: st) σ Q) : Ex l Ω M pc ls (.int (nI b) :: .int (nI a) :: st) σ Q := x_idiv hd (nI_ne0 h0 hb) (by rw [pk_div ha h0 hb]; exact k)
theorem x_iincN {i a : Nat} {ls2 : List (Option Value)} (hd : decode (xcc M) pc = .ok (.iinc i 1, 3)) (hv : ls[i]? = some (some (.int (nI a)))) (hn : i < xnL M) (hs : xs1 (.int (nI (a + 1))) i ls = ls2) (k : Ex l Ω M (pc + 3) ls2 st σ Q) : Ex l Ω M pc ls st σ Q := x_iinc hd hv (by rw [nI_succ]; rfl) hn hs k
theorem x_ialdN {q n b t j : Nat} (hd : decode (xcc M) pc = .ok (.iaload, 1)) (hs : (xsh Ω)[q]? = some (.inl (0, n, b, t))) (hj : j < n) (hn : n < 2 ^ 31) (k : Ex l Ω M (pc + 1) ls (.int (σ.1 q j) :: st) σ Q) : Ex l Ω M pc ls (.int (nI j) :: .ref q :: st) σ Q := x_iald hd hs (vp_in_nI hj hn) (by rw [nI_clamp (Nat.lt_trans hj hn)]; exact k)
theorem x_getiE {q ci i idx N : Nat} {fs : List xF} {C : String} {T : u_T} {x : Int32} (hd : decode (xcc M) pc = .ok (.getfield idx, 3)) (hs : (xsh Ω)[q]? = some (.inr (ci, fs))) (hf : fs[i]? = some (.inl false)) (hc : vwCl[ci]? = some (C, T, N)) (hi : i < N) (hlk : Cond.fieldLink (xy M).cls idx (T i).1 (T i).2.1 (T i).2.2.1 ∈ gt) (hin : ∀ w ∈ u_ws C T N, w ∈ gt) (hx : σ.1 q i = x) (k : Ex l Ω M (pc + 3) ls (.int x :: st) σ Q) : Ex l Ω M pc ls (.ref q :: st) σ Q := x_geti hd hs hf hc hi hlk hin (hx ▸ k)
theorem x_ialdE {q n b t j : Nat} {x : Int32} (hd : decode (xcc M) pc = .ok (.iaload, 1)) (hs : (xsh Ω)[q]? = some (.inl (0, n, b, t))) (hj : j < n) (hn : n < 2 ^ 31) (hx : σ.1 q j = x) (k : Ex l Ω M (pc + 1) ls (.int x :: st) σ Q) : Ex l Ω M pc ls (.int (nI j) :: .ref q :: st) σ Q := x_ialdN hd hs hj hn (hx ▸ k)
theorem x_laldE {q n b t j : Nat} {x : Int64} (hd : decode (xcc M) pc = .ok (.laload, 1)) (hs : (xsh Ω)[q]? = some (.inl (1, n, b, t))) (hj : j < n) (hn : n < 2 ^ 31) (hx : σ.2 q j = x) (k : Ex l Ω M (pc + 1) ls (.long x :: st) σ Q) : Ex l Ω M pc ls (.int (nI j) :: .ref q :: st) σ Q := x_lald hd hs (vp_in_nI hj hn) (by rw [nI_clamp (Nat.lt_trans hj hn), hx]; exact k)
theorem x_getlE {q ci i idx N : Nat} {fs : List xF} {C : String} {T : u_T} {x : Int64} (hd : decode (xcc M) pc = .ok (.getfield idx, 3)) (hs : (xsh Ω)[q]? = some (.inr (ci, fs))) (hf : fs[i]? = some (.inl true)) (hc : vwCl[ci]? = some (C, T, N)) (hi : i < N) (hlk : Cond.fieldLink (xy M).cls idx (T i).1 (T i).2.1 (T i).2.2.1 ∈ gt) (hin : ∀ w ∈ u_ws C T N, w ∈ gt) (hx : σ.2 q i = x) (k : Ex l Ω M (pc + 3) ls (.long x :: st) σ Q) : Ex l Ω M pc ls (.ref q :: st) σ Q := x_getl hd hs hf hc hi hlk hin (hx ▸ k)
theorem x_ls {ls' : List (Option Value)} (h : ls = ls') (k : Ex l Ω M pc ls' st σ Q) : Ex l Ω M pc ls st σ Q := h ▸ k
theorem x_top {x y : Int32} (h : x = y) (k : Ex l Ω M pc ls (.int y :: st) σ Q) : Ex l Ω M pc ls (.int x :: st) σ Q := h ▸ k
theorem x_iincD {i a : Nat} {ls2 : List (Option Value)} (hd : decode (xcc M) pc = .ok (.iinc i (-1), 3)) (hv : ls[i]? = some (some (.int (nI (a + 1))))) (hn : i < xnL M) (hs : xs1 (.int (nI a)) i ls = ls2) (k : Ex l Ω M (pc + 3) ls2 st σ Q) : Ex l Ω M pc ls st σ Q := x_iinc hd hv (pk_m1 a) hn hs k
theorem x_laldN {q n b t j : Nat} (hd : decode (xcc M) pc = .ok (.laload, 1)) (hs : (xsh Ω)[q]? = some (.inl (1, n, b, t))) (hj : j < n) (hn : n < 2 ^ 31) (k : Ex l Ω M (pc + 1) ls (.long (σ.2 q j) :: st) σ Q) : Ex l Ω M pc ls (.int (nI j) :: .ref q :: st) σ Q := x_lald hd hs (vp_in_nI hj hn) (by rw [nI_clamp (Nat.lt_trans hj hn)]; exact k)
theorem x_caldN {q n b t j : Nat} (h2 : xt2 Ω = .char) (hd : decode (xcc M) pc = .ok (.caload, 1)) (hs : (xsh Ω)[q]? = some (.inl (2, n, b, t))) (hj : j < n) (hn : n < 2 ^ 31) (k : Ex l Ω M (pc + 1) ls (.int (σ.1 q j) :: st) σ Q) : Ex l Ω M pc ls (.int (nI j) :: .ref q :: st) σ Q := x_cald h2 hd hs (vp_in_nI hj hn) (by rw [nI_clamp (Nat.lt_trans hj hn)]; exact k)
theorem x_aaldN {q n b t j : Nat} {C : String} (h2 : xt2 Ω = .object C) (hd : decode (xcc M) pc = .ok (.aaload, 1)) (hs : (xsh Ω)[q]? = some (.inl (3, n, b, t))) (hj : j < n) (hn : n < 2 ^ 31) (k : Ex l Ω M (pc + 1) ls (.ref (b + t * j) :: st) σ Q) : Ex l Ω M pc ls (.int (nI j) :: .ref q :: st) σ Q := x_aald h2 hd hs (vp_in_nI hj hn) (by rw [nI_clamp (Nat.lt_trans hj hn)]; exact k)
theorem x_iastN {q n b t j : Nat} {v : Int32} (hd : decode (xcc M) pc = .ok (.iastore, 1)) (hs : (xsh Ω)[q]? = some (.inl (0, n, b, t))) (hj : j < n) (hn : n < 2 ^ 31) (k : Ex l Ω M (pc + 1) ls st (xpi σ q j v) Q) : Ex l Ω M pc ls (.int v :: .int (nI j) :: .ref q :: st) σ Q := x_iast hd hs (vp_in_nI hj hn) (by rw [nI_clamp (Nat.lt_trans hj hn)]; exact k)
theorem x_lastN {q n b t j : Nat} {v : Int64} (hd : decode (xcc M) pc = .ok (.lastore, 1)) (hs : (xsh Ω)[q]? = some (.inl (1, n, b, t))) (hj : j < n) (hn : n < 2 ^ 31) (k : Ex l Ω M (pc + 1) ls st (xpl σ q j v) Q) : Ex l Ω M pc ls (.long v :: .int (nI j) :: .ref q :: st) σ Q := x_last hd hs (vp_in_nI hj hn) (by rw [nI_clamp (Nat.lt_trans hj hn)]; exact k)
theorem x_iceqN {a b : Nat} {off : Int} {tgt : Nat} (ha : a < 2 ^ 31) (hb : b < 2 ^ 31) (hd : decode (xcc M) pc = .ok (.if_icmp .eq off, 3)) (ht : (pc : Int) + off = (tgt : Int)) (kt : a = b → Ex l Ω M tgt ls st σ Q) (kf : a ≠ b → Ex l Ω M (pc + 3) ls st σ Q) : Ex l Ω M pc ls (.int (nI b) :: .int (nI a) :: st) σ Q := x_iceq hd ht (fun h => kt ((nI_eq ha hb).mp h)) (fun h => kf (fun z => h ((nI_eq ha hb).mpr z)))
theorem x_icneN {a b : Nat} {off : Int} {tgt : Nat} (ha : a < 2 ^ 31) (hb : b < 2 ^ 31) (hd : decode (xcc M) pc = .ok (.if_icmp .ne off, 3)) (ht : (pc : Int) + off = (tgt : Int)) (kt : a ≠ b → Ex l Ω M tgt ls st σ Q) (kf : a = b → Ex l Ω M (pc + 3) ls st σ Q) : Ex l Ω M pc ls (.int (nI b) :: .int (nI a) :: st) σ Q := x_icne hd ht (fun h => kt (fun z => h ((nI_eq ha hb).mpr z))) (fun h => kf ((nI_eq ha hb).mp h))
theorem x_icltN {a b : Nat} {off : Int} {tgt : Nat} (ha : a < 2 ^ 31) (hb : b < 2 ^ 31) (hd : decode (xcc M) pc = .ok (.if_icmp .lt off, 3)) (ht : (pc : Int) + off = (tgt : Int)) (kt : a < b → Ex l Ω M tgt ls st σ Q) (kf : b ≤ a → Ex l Ω M (pc + 3) ls st σ Q) : Ex l Ω M pc ls (.int (nI b) :: .int (nI a) :: st) σ Q := x_iclt hd ht (fun h => kt ((nI_ltI ha hb).mp h)) (fun h => kf (Nat.not_lt.mp fun z => h ((nI_ltI ha hb).mpr z)))
theorem x_icgeN {a b : Nat} {off : Int} {tgt : Nat} (ha : a < 2 ^ 31) (hb : b < 2 ^ 31) (hd : decode (xcc M) pc = .ok (.if_icmp .ge off, 3)) (ht : (pc : Int) + off = (tgt : Int)) (kt : b ≤ a → Ex l Ω M tgt ls st σ Q) (kf : a < b → Ex l Ω M (pc + 3) ls st σ Q) : Ex l Ω M pc ls (.int (nI b) :: .int (nI a) :: st) σ Q := x_icge hd ht (fun h => kt ((nI_leI hb ha).mp h)) (fun h => kf (Nat.not_le.mp fun z => h ((nI_leI hb ha).mpr z)))
theorem x_icgtN {a b : Nat} {off : Int} {tgt : Nat} (ha : a < 2 ^ 31) (hb : b < 2 ^ 31) (hd : decode (xcc M) pc = .ok (.if_icmp .gt off, 3)) (ht : (pc : Int) + off = (tgt : Int)) (kt : b < a → Ex l Ω M tgt ls st σ Q) (kf : a ≤ b → Ex l Ω M (pc + 3) ls st σ Q) : Ex l Ω M pc ls (.int (nI b) :: .int (nI a) :: st) σ Q := x_icgt hd ht (fun h => kt ((nI_ltI hb ha).mp h)) (fun h => kf (Nat.not_lt.mp fun z => h ((nI_ltI hb ha).mpr z)))
theorem x_icleN {a b : Nat} {off : Int} {tgt : Nat} (ha : a < 2 ^ 31) (hb : b < 2 ^ 31) (hd : decode (xcc M) pc = .ok (.if_icmp .le off, 3)) (ht : (pc : Int) + off = (tgt : Int)) (kt : a ≤ b → Ex l Ω M tgt ls st σ Q) (kf : b < a → Ex l Ω M (pc + 3) ls st σ Q) : Ex l Ω M pc ls (.int (nI b) :: .int (nI a) :: st) σ Q := x_icle hd ht (fun h => kt ((nI_leI ha hb).mp h)) (fun h => kf (Nat.not_le.mp fun z => h ((nI_leI ha hb).mpr z)))
theorem x_ifeqP {P : Prop} [Decidable P] {off : Int} {tgt : Nat} (hd : decode (xcc M) pc = .ok (.ifCond .eq off, 3)) (ht : (pc : Int) + off = (tgt : Int)) (kt : ¬ P → Ex l Ω M tgt ls st σ Q) (kf : P → Ex l Ω M (pc + 3) ls st σ Q) : Ex l Ω M pc ls (.int (xb P) :: st) σ Q := x_ifeq hd ht (fun h => kt (fun z => by rw [xb_t z] at h; exact absurd h (by decide))) (fun h => kf (Classical.byContradiction fun z => h (xb_f z)))
theorem x_ifneP {P : Prop} [Decidable P] {off : Int} {tgt : Nat} (hd : decode (xcc M) pc = .ok (.ifCond .ne off, 3)) (ht : (pc : Int) + off = (tgt : Int)) (kt : P → Ex l Ω M tgt ls st σ Q) (kf : ¬ P → Ex l Ω M (pc + 3) ls st σ Q) : Ex l Ω M pc ls (.int (xb P) :: st) σ Q := x_ifne hd ht (fun h => kt (Classical.byContradiction fun z => h (xb_f z))) (fun h => kf (fun z => by rw [xb_t z] at h; exact absurd h (by decide)))
theorem x_v0i {b ci n0 : Nat} {fs : List xF} {T : u_T} (hd : decode (xcc M) pc = .ok (.invokevirtual idx, 3)) (hN : xokV N 0) (hlk : Cond.methodLink (xy M).cls idx (xy N) ∈ gt) (hs : (xsh Ω)[b]? = some (.inr (ci, fs))) (hc : vwCl[ci]? = some ((xy N).cls, T, n0)) (hlen : (xarg (.ref b :: [])).length ≤ xnL N) (hfit : xfit M N) (hst : (st.map fun v => v.category).sum ≤ 8) (hv : Evi l Ω N (.ref b :: []) σ (fun x τ => Ex l Ω M (pc + 3) ls (.int x :: st) τ Q)) : Ex l Ω M pc ls (.ref b :: st) σ Q := x_v0 hd hN hlk hs hc hlen hfit hst hv (fun r τ ⟨x, e, h⟩ => by subst e; exact h)
theorem x_v0v {b ci n0 : Nat} {fs : List xF} {T : u_T} (hd : decode (xcc M) pc = .ok (.invokevirtual idx, 3)) (hN : xokV N 0) (hlk : Cond.methodLink (xy M).cls idx (xy N) ∈ gt) (hs : (xsh Ω)[b]? = some (.inr (ci, fs))) (hc : vwCl[ci]? = some ((xy N).cls, T, n0)) (hlen : (xarg (.ref b :: [])).length ≤ xnL N) (hfit : xfit M N) (hst : (st.map fun v => v.category).sum ≤ 8) (hv : Evv l Ω N (.ref b :: []) σ (fun τ => Ex l Ω M (pc + 3) ls st τ Q)) : Ex l Ω M pc ls (.ref b :: st) σ Q := x_v0 hd hN hlk hs hc hlen hfit hst hv (fun r τ ⟨e, h⟩ => by subst e; exact h)
theorem x_v0l {b ci n0 : Nat} {fs : List xF} {T : u_T} (hd : decode (xcc M) pc = .ok (.invokevirtual idx, 3)) (hN : xokV N 0) (hlk : Cond.methodLink (xy M).cls idx (xy N) ∈ gt) (hs : (xsh Ω)[b]? = some (.inr (ci, fs))) (hc : vwCl[ci]? = some ((xy N).cls, T, n0)) (hlen : (xarg (.ref b :: [])).length ≤ xnL N) (hfit : xfit M N) (hst : (st.map fun v => v.category).sum ≤ 8) (hv : Evl l Ω N (.ref b :: []) σ (fun x τ => Ex l Ω M (pc + 3) ls (.long x :: st) τ Q)) : Ex l Ω M pc ls (.ref b :: st) σ Q := x_v0 hd hN hlk hs hc hlen hfit hst hv (fun r τ ⟨x, e, h⟩ => by subst e; exact h)
theorem x_v1i {b ci n0 : Nat} {fs : List xF} {T : u_T} {a0 : Value} (hd : decode (xcc M) pc = .ok (.invokevirtual idx, 3)) (hN : xokV N 1) (hlk : Cond.methodLink (xy M).cls idx (xy N) ∈ gt) (hs : (xsh Ω)[b]? = some (.inr (ci, fs))) (hc : vwCl[ci]? = some ((xy N).cls, T, n0)) (hlen : (xarg (.ref b :: [a0])).length ≤ xnL N) (hfit : xfit M N) (hst : (st.map fun v => v.category).sum ≤ 8) (hv : Evi l Ω N (.ref b :: [a0]) σ (fun x τ => Ex l Ω M (pc + 3) ls (.int x :: st) τ Q)) : Ex l Ω M pc ls (a0 :: .ref b :: st) σ Q := x_v1 hd hN hlk hs hc hlen hfit hst hv (fun r τ ⟨x, e, h⟩ => by subst e; exact h)
theorem x_v1v {b ci n0 : Nat} {fs : List xF} {T : u_T} {a0 : Value} (hd : decode (xcc M) pc = .ok (.invokevirtual idx, 3)) (hN : xokV N 1) (hlk : Cond.methodLink (xy M).cls idx (xy N) ∈ gt) (hs : (xsh Ω)[b]? = some (.inr (ci, fs))) (hc : vwCl[ci]? = some ((xy N).cls, T, n0)) (hlen : (xarg (.ref b :: [a0])).length ≤ xnL N) (hfit : xfit M N) (hst : (st.map fun v => v.category).sum ≤ 8) (hv : Evv l Ω N (.ref b :: [a0]) σ (fun τ => Ex l Ω M (pc + 3) ls st τ Q)) : Ex l Ω M pc ls (a0 :: .ref b :: st) σ Q := x_v1 hd hN hlk hs hc hlen hfit hst hv (fun r τ ⟨e, h⟩ => by subst e; exact h)
theorem x_v1l {b ci n0 : Nat} {fs : List xF} {T : u_T} {a0 : Value} (hd : decode (xcc M) pc = .ok (.invokevirtual idx, 3)) (hN : xokV N 1) (hlk : Cond.methodLink (xy M).cls idx (xy N) ∈ gt) (hs : (xsh Ω)[b]? = some (.inr (ci, fs))) (hc : vwCl[ci]? = some ((xy N).cls, T, n0)) (hlen : (xarg (.ref b :: [a0])).length ≤ xnL N) (hfit : xfit M N) (hst : (st.map fun v => v.category).sum ≤ 8) (hv : Evl l Ω N (.ref b :: [a0]) σ (fun x τ => Ex l Ω M (pc + 3) ls (.long x :: st) τ Q)) : Ex l Ω M pc ls (a0 :: .ref b :: st) σ Q := x_v1 hd hN hlk hs hc hlen hfit hst hv (fun r τ ⟨x, e, h⟩ => by subst e; exact h)
theorem x_v2i {b ci n0 : Nat} {fs : List xF} {T : u_T} {a0 a1 : Value} (hd : decode (xcc M) pc = .ok (.invokevirtual idx, 3)) (hN : xokV N 2) (hlk : Cond.methodLink (xy M).cls idx (xy N) ∈ gt) (hs : (xsh Ω)[b]? = some (.inr (ci, fs))) (hc : vwCl[ci]? = some ((xy N).cls, T, n0)) (hlen : (xarg (.ref b :: [a0, a1])).length ≤ xnL N) (hfit : xfit M N) (hst : (st.map fun v => v.category).sum ≤ 8) (hv : Evi l Ω N (.ref b :: [a0, a1]) σ (fun x τ => Ex l Ω M (pc + 3) ls (.int x :: st) τ Q)) : Ex l Ω M pc ls (a1 :: a0 :: .ref b :: st) σ Q := x_v2 hd hN hlk hs hc hlen hfit hst hv (fun r τ ⟨x, e, h⟩ => by subst e; exact h)
theorem x_v2v {b ci n0 : Nat} {fs : List xF} {T : u_T} {a0 a1 : Value} (hd : decode (xcc M) pc = .ok (.invokevirtual idx, 3)) (hN : xokV N 2) (hlk : Cond.methodLink (xy M).cls idx (xy N) ∈ gt) (hs : (xsh Ω)[b]? = some (.inr (ci, fs))) (hc : vwCl[ci]? = some ((xy N).cls, T, n0)) (hlen : (xarg (.ref b :: [a0, a1])).length ≤ xnL N) (hfit : xfit M N) (hst : (st.map fun v => v.category).sum ≤ 8) (hv : Evv l Ω N (.ref b :: [a0, a1]) σ (fun τ => Ex l Ω M (pc + 3) ls st τ Q)) : Ex l Ω M pc ls (a1 :: a0 :: .ref b :: st) σ Q := x_v2 hd hN hlk hs hc hlen hfit hst hv (fun r τ ⟨e, h⟩ => by subst e; exact h)
theorem x_v2l {b ci n0 : Nat} {fs : List xF} {T : u_T} {a0 a1 : Value} (hd : decode (xcc M) pc = .ok (.invokevirtual idx, 3)) (hN : xokV N 2) (hlk : Cond.methodLink (xy M).cls idx (xy N) ∈ gt) (hs : (xsh Ω)[b]? = some (.inr (ci, fs))) (hc : vwCl[ci]? = some ((xy N).cls, T, n0)) (hlen : (xarg (.ref b :: [a0, a1])).length ≤ xnL N) (hfit : xfit M N) (hst : (st.map fun v => v.category).sum ≤ 8) (hv : Evl l Ω N (.ref b :: [a0, a1]) σ (fun x τ => Ex l Ω M (pc + 3) ls (.long x :: st) τ Q)) : Ex l Ω M pc ls (a1 :: a0 :: .ref b :: st) σ Q := x_v2 hd hN hlk hs hc hlen hfit hst hv (fun r τ ⟨x, e, h⟩ => by subst e; exact h)
theorem x_v3i {b ci n0 : Nat} {fs : List xF} {T : u_T} {a0 a1 a2 : Value} (hd : decode (xcc M) pc = .ok (.invokevirtual idx, 3)) (hN : xokV N 3) (hlk : Cond.methodLink (xy M).cls idx (xy N) ∈ gt) (hs : (xsh Ω)[b]? = some (.inr (ci, fs))) (hc : vwCl[ci]? = some ((xy N).cls, T, n0)) (hlen : (xarg (.ref b :: [a0, a1, a2])).length ≤ xnL N) (hfit : xfit M N) (hst : (st.map fun v => v.category).sum ≤ 8) (hv : Evi l Ω N (.ref b :: [a0, a1, a2]) σ (fun x τ => Ex l Ω M (pc + 3) ls (.int x :: st) τ Q)) : Ex l Ω M pc ls (a2 :: a1 :: a0 :: .ref b :: st) σ Q := x_v3 hd hN hlk hs hc hlen hfit hst hv (fun r τ ⟨x, e, h⟩ => by subst e; exact h)
theorem x_v3v {b ci n0 : Nat} {fs : List xF} {T : u_T} {a0 a1 a2 : Value} (hd : decode (xcc M) pc = .ok (.invokevirtual idx, 3)) (hN : xokV N 3) (hlk : Cond.methodLink (xy M).cls idx (xy N) ∈ gt) (hs : (xsh Ω)[b]? = some (.inr (ci, fs))) (hc : vwCl[ci]? = some ((xy N).cls, T, n0)) (hlen : (xarg (.ref b :: [a0, a1, a2])).length ≤ xnL N) (hfit : xfit M N) (hst : (st.map fun v => v.category).sum ≤ 8) (hv : Evv l Ω N (.ref b :: [a0, a1, a2]) σ (fun τ => Ex l Ω M (pc + 3) ls st τ Q)) : Ex l Ω M pc ls (a2 :: a1 :: a0 :: .ref b :: st) σ Q := x_v3 hd hN hlk hs hc hlen hfit hst hv (fun r τ ⟨e, h⟩ => by subst e; exact h)
theorem x_v3l {b ci n0 : Nat} {fs : List xF} {T : u_T} {a0 a1 a2 : Value} (hd : decode (xcc M) pc = .ok (.invokevirtual idx, 3)) (hN : xokV N 3) (hlk : Cond.methodLink (xy M).cls idx (xy N) ∈ gt) (hs : (xsh Ω)[b]? = some (.inr (ci, fs))) (hc : vwCl[ci]? = some ((xy N).cls, T, n0)) (hlen : (xarg (.ref b :: [a0, a1, a2])).length ≤ xnL N) (hfit : xfit M N) (hst : (st.map fun v => v.category).sum ≤ 8) (hv : Evl l Ω N (.ref b :: [a0, a1, a2]) σ (fun x τ => Ex l Ω M (pc + 3) ls (.long x :: st) τ Q)) : Ex l Ω M pc ls (a2 :: a1 :: a0 :: .ref b :: st) σ Q := x_v3 hd hN hlk hs hc hlen hfit hst hv (fun r τ ⟨x, e, h⟩ => by subst e; exact h)
theorem x_v4i {b ci n0 : Nat} {fs : List xF} {T : u_T} {a0 a1 a2 a3 : Value} (hd : decode (xcc M) pc = .ok (.invokevirtual idx, 3)) (hN : xokV N 4) (hlk : Cond.methodLink (xy M).cls idx (xy N) ∈ gt) (hs : (xsh Ω)[b]? = some (.inr (ci, fs))) (hc : vwCl[ci]? = some ((xy N).cls, T, n0)) (hlen : (xarg (.ref b :: [a0, a1, a2, a3])).length ≤ xnL N) (hfit : xfit M N) (hst : (st.map fun v => v.category).sum ≤ 8) (hv : Evi l Ω N (.ref b :: [a0, a1, a2, a3]) σ (fun x τ => Ex l Ω M (pc + 3) ls (.int x :: st) τ Q)) : Ex l Ω M pc ls (a3 :: a2 :: a1 :: a0 :: .ref b :: st) σ Q := x_v4 hd hN hlk hs hc hlen hfit hst hv (fun r τ ⟨x, e, h⟩ => by subst e; exact h)
theorem x_v4v {b ci n0 : Nat} {fs : List xF} {T : u_T} {a0 a1 a2 a3 : Value} (hd : decode (xcc M) pc = .ok (.invokevirtual idx, 3)) (hN : xokV N 4) (hlk : Cond.methodLink (xy M).cls idx (xy N) ∈ gt) (hs : (xsh Ω)[b]? = some (.inr (ci, fs))) (hc : vwCl[ci]? = some ((xy N).cls, T, n0)) (hlen : (xarg (.ref b :: [a0, a1, a2, a3])).length ≤ xnL N) (hfit : xfit M N) (hst : (st.map fun v => v.category).sum ≤ 8) (hv : Evv l Ω N (.ref b :: [a0, a1, a2, a3]) σ (fun τ => Ex l Ω M (pc + 3) ls st τ Q)) : Ex l Ω M pc ls (a3 :: a2 :: a1 :: a0 :: .ref b :: st) σ Q := x_v4 hd hN hlk hs hc hlen hfit hst hv (fun r τ ⟨e, h⟩ => by subst e; exact h)
theorem x_v5i {b ci n0 : Nat} {fs : List xF} {T : u_T} {a0 a1 a2 a3 a4 : Value} (hd : decode (xcc M) pc = .ok (.invokevirtual idx, 3)) (hN : xokV N 5) (hlk : Cond.methodLink (xy M).cls idx (xy N) ∈ gt) (hs : (xsh Ω)[b]? = some (.inr (ci, fs))) (hc : vwCl[ci]? = some ((xy N).cls, T, n0)) (hlen : (xarg (.ref b :: [a0, a1, a2, a3, a4])).length ≤ xnL N) (hfit : xfit M N) (hst : (st.map fun v => v.category).sum ≤ 8) (hv : Evi l Ω N (.ref b :: [a0, a1, a2, a3, a4]) σ (fun x τ => Ex l Ω M (pc + 3) ls (.int x :: st) τ Q)) : Ex l Ω M pc ls (a4 :: a3 :: a2 :: a1 :: a0 :: .ref b :: st) σ Q := x_v5 hd hN hlk hs hc hlen hfit hst hv (fun r τ ⟨x, e, h⟩ => by subst e; exact h)
theorem x_v5v {b ci n0 : Nat} {fs : List xF} {T : u_T} {a0 a1 a2 a3 a4 : Value} (hd : decode (xcc M) pc = .ok (.invokevirtual idx, 3)) (hN : xokV N 5) (hlk : Cond.methodLink (xy M).cls idx (xy N) ∈ gt) (hs : (xsh Ω)[b]? = some (.inr (ci, fs))) (hc : vwCl[ci]? = some ((xy N).cls, T, n0)) (hlen : (xarg (.ref b :: [a0, a1, a2, a3, a4])).length ≤ xnL N) (hfit : xfit M N) (hst : (st.map fun v => v.category).sum ≤ 8) (hv : Evv l Ω N (.ref b :: [a0, a1, a2, a3, a4]) σ (fun τ => Ex l Ω M (pc + 3) ls st τ Q)) : Ex l Ω M pc ls (a4 :: a3 :: a2 :: a1 :: a0 :: .ref b :: st) σ Q := x_v5 hd hN hlk hs hc hlen hfit hst hv (fun r τ ⟨e, h⟩ => by subst e; exact h)
theorem x_v6i {b ci n0 : Nat} {fs : List xF} {T : u_T} {a0 a1 a2 a3 a4 a5 : Value} (hd : decode (xcc M) pc = .ok (.invokevirtual idx, 3)) (hN : xokV N 6) (hlk : Cond.methodLink (xy M).cls idx (xy N) ∈ gt) (hs : (xsh Ω)[b]? = some (.inr (ci, fs))) (hc : vwCl[ci]? = some ((xy N).cls, T, n0)) (hlen : (xarg (.ref b :: [a0, a1, a2, a3, a4, a5])).length ≤ xnL N) (hfit : xfit M N) (hst : (st.map fun v => v.category).sum ≤ 8) (hv : Evi l Ω N (.ref b :: [a0, a1, a2, a3, a4, a5]) σ (fun x τ => Ex l Ω M (pc + 3) ls (.int x :: st) τ Q)) : Ex l Ω M pc ls (a5 :: a4 :: a3 :: a2 :: a1 :: a0 :: .ref b :: st) σ Q := x_v6 hd hN hlk hs hc hlen hfit hst hv (fun r τ ⟨x, e, h⟩ => by subst e; exact h)
theorem x_v6v {b ci n0 : Nat} {fs : List xF} {T : u_T} {a0 a1 a2 a3 a4 a5 : Value} (hd : decode (xcc M) pc = .ok (.invokevirtual idx, 3)) (hN : xokV N 6) (hlk : Cond.methodLink (xy M).cls idx (xy N) ∈ gt) (hs : (xsh Ω)[b]? = some (.inr (ci, fs))) (hc : vwCl[ci]? = some ((xy N).cls, T, n0)) (hlen : (xarg (.ref b :: [a0, a1, a2, a3, a4, a5])).length ≤ xnL N) (hfit : xfit M N) (hst : (st.map fun v => v.category).sum ≤ 8) (hv : Evv l Ω N (.ref b :: [a0, a1, a2, a3, a4, a5]) σ (fun τ => Ex l Ω M (pc + 3) ls st τ Q)) : Ex l Ω M pc ls (a5 :: a4 :: a3 :: a2 :: a1 :: a0 :: .ref b :: st) σ Q := x_v6 hd hN hlk hs hc hlen hfit hst hv (fun r τ ⟨e, h⟩ => by subst e; exact h)
theorem x_s1i {a0 : Value} (hd : decode (xcc M) pc = .ok (.invokestatic idx, 3)) (hN : xokS N 1) (hlk : Cond.methodLink (xy M).cls idx (xy N) ∈ gt) (hlen : (xarg [a0]).length ≤ xnL N) (hfit : xfit M N) (hst : (st.map fun v => v.category).sum ≤ 8) (hv : Evi l Ω N [a0] σ (fun x τ => Ex l Ω M (pc + 3) ls (.int x :: st) τ Q)) : Ex l Ω M pc ls (a0 :: st) σ Q := x_s1 hd hN hlk hlen hfit hst hv (fun r τ ⟨x, e, h⟩ => by subst e; exact h)
theorem x_s1v {a0 : Value} (hd : decode (xcc M) pc = .ok (.invokestatic idx, 3)) (hN : xokS N 1) (hlk : Cond.methodLink (xy M).cls idx (xy N) ∈ gt) (hlen : (xarg [a0]).length ≤ xnL N) (hfit : xfit M N) (hst : (st.map fun v => v.category).sum ≤ 8) (hv : Evv l Ω N [a0] σ (fun τ => Ex l Ω M (pc + 3) ls st τ Q)) : Ex l Ω M pc ls (a0 :: st) σ Q := x_s1 hd hN hlk hlen hfit hst hv (fun r τ ⟨e, h⟩ => by subst e; exact h)
theorem x_s1l {a0 : Value} (hd : decode (xcc M) pc = .ok (.invokestatic idx, 3)) (hN : xokS N 1) (hlk : Cond.methodLink (xy M).cls idx (xy N) ∈ gt) (hlen : (xarg [a0]).length ≤ xnL N) (hfit : xfit M N) (hst : (st.map fun v => v.category).sum ≤ 8) (hv : Evl l Ω N [a0] σ (fun x τ => Ex l Ω M (pc + 3) ls (.long x :: st) τ Q)) : Ex l Ω M pc ls (a0 :: st) σ Q := x_s1 hd hN hlk hlen hfit hst hv (fun r τ ⟨x, e, h⟩ => by subst e; exact h)
theorem x_s2i {a0 a1 : Value} (hd : decode (xcc M) pc = .ok (.invokestatic idx, 3)) (hN : xokS N 2) (hlk : Cond.methodLink (xy M).cls idx (xy N) ∈ gt) (hlen : (xarg [a0, a1]).length ≤ xnL N) (hfit : xfit M N) (hst : (st.map fun v => v.category).sum ≤ 8) (hv : Evi l Ω N [a0, a1] σ (fun x τ => Ex l Ω M (pc + 3) ls (.int x :: st) τ Q)) : Ex l Ω M pc ls (a1 :: a0 :: st) σ Q := x_s2 hd hN hlk hlen hfit hst hv (fun r τ ⟨x, e, h⟩ => by subst e; exact h)
theorem x_s2v {a0 a1 : Value} (hd : decode (xcc M) pc = .ok (.invokestatic idx, 3)) (hN : xokS N 2) (hlk : Cond.methodLink (xy M).cls idx (xy N) ∈ gt) (hlen : (xarg [a0, a1]).length ≤ xnL N) (hfit : xfit M N) (hst : (st.map fun v => v.category).sum ≤ 8) (hv : Evv l Ω N [a0, a1] σ (fun τ => Ex l Ω M (pc + 3) ls st τ Q)) : Ex l Ω M pc ls (a1 :: a0 :: st) σ Q := x_s2 hd hN hlk hlen hfit hst hv (fun r τ ⟨e, h⟩ => by subst e; exact h)
theorem x_s2l {a0 a1 : Value} (hd : decode (xcc M) pc = .ok (.invokestatic idx, 3)) (hN : xokS N 2) (hlk : Cond.methodLink (xy M).cls idx (xy N) ∈ gt) (hlen : (xarg [a0, a1]).length ≤ xnL N) (hfit : xfit M N) (hst : (st.map fun v => v.category).sum ≤ 8) (hv : Evl l Ω N [a0, a1] σ (fun x τ => Ex l Ω M (pc + 3) ls (.long x :: st) τ Q)) : Ex l Ω M pc ls (a1 :: a0 :: st) σ Q := x_s2 hd hN hlk hlen hfit hst hv (fun r τ ⟨x, e, h⟩ => by subst e; exact h)
theorem x_s3i {a0 a1 a2 : Value} (hd : decode (xcc M) pc = .ok (.invokestatic idx, 3)) (hN : xokS N 3) (hlk : Cond.methodLink (xy M).cls idx (xy N) ∈ gt) (hlen : (xarg [a0, a1, a2]).length ≤ xnL N) (hfit : xfit M N) (hst : (st.map fun v => v.category).sum ≤ 8) (hv : Evi l Ω N [a0, a1, a2] σ (fun x τ => Ex l Ω M (pc + 3) ls (.int x :: st) τ Q)) : Ex l Ω M pc ls (a2 :: a1 :: a0 :: st) σ Q := x_s3 hd hN hlk hlen hfit hst hv (fun r τ ⟨x, e, h⟩ => by subst e; exact h)
theorem x_s3v {a0 a1 a2 : Value} (hd : decode (xcc M) pc = .ok (.invokestatic idx, 3)) (hN : xokS N 3) (hlk : Cond.methodLink (xy M).cls idx (xy N) ∈ gt) (hlen : (xarg [a0, a1, a2]).length ≤ xnL N) (hfit : xfit M N) (hst : (st.map fun v => v.category).sum ≤ 8) (hv : Evv l Ω N [a0, a1, a2] σ (fun τ => Ex l Ω M (pc + 3) ls st τ Q)) : Ex l Ω M pc ls (a2 :: a1 :: a0 :: st) σ Q := x_s3 hd hN hlk hlen hfit hst hv (fun r τ ⟨e, h⟩ => by subst e; exact h)
theorem x_s3l {a0 a1 a2 : Value} (hd : decode (xcc M) pc = .ok (.invokestatic idx, 3)) (hN : xokS N 3) (hlk : Cond.methodLink (xy M).cls idx (xy N) ∈ gt) (hlen : (xarg [a0, a1, a2]).length ≤ xnL N) (hfit : xfit M N) (hst : (st.map fun v => v.category).sum ≤ 8) (hv : Evl l Ω N [a0, a1, a2] σ (fun x τ => Ex l Ω M (pc + 3) ls (.long x :: st) τ Q)) : Ex l Ω M pc ls (a2 :: a1 :: a0 :: st) σ Q := x_s3 hd hN hlk hlen hfit hst hv (fun r τ ⟨x, e, h⟩ => by subst e; exact h)
theorem x_s4i {a0 a1 a2 a3 : Value} (hd : decode (xcc M) pc = .ok (.invokestatic idx, 3)) (hN : xokS N 4) (hlk : Cond.methodLink (xy M).cls idx (xy N) ∈ gt) (hlen : (xarg [a0, a1, a2, a3]).length ≤ xnL N) (hfit : xfit M N) (hst : (st.map fun v => v.category).sum ≤ 8) (hv : Evi l Ω N [a0, a1, a2, a3] σ (fun x τ => Ex l Ω M (pc + 3) ls (.int x :: st) τ Q)) : Ex l Ω M pc ls (a3 :: a2 :: a1 :: a0 :: st) σ Q := x_s4 hd hN hlk hlen hfit hst hv (fun r τ ⟨x, e, h⟩ => by subst e; exact h)
theorem x_s4v {a0 a1 a2 a3 : Value} (hd : decode (xcc M) pc = .ok (.invokestatic idx, 3)) (hN : xokS N 4) (hlk : Cond.methodLink (xy M).cls idx (xy N) ∈ gt) (hlen : (xarg [a0, a1, a2, a3]).length ≤ xnL N) (hfit : xfit M N) (hst : (st.map fun v => v.category).sum ≤ 8) (hv : Evv l Ω N [a0, a1, a2, a3] σ (fun τ => Ex l Ω M (pc + 3) ls st τ Q)) : Ex l Ω M pc ls (a3 :: a2 :: a1 :: a0 :: st) σ Q := x_s4 hd hN hlk hlen hfit hst hv (fun r τ ⟨e, h⟩ => by subst e; exact h)
theorem x_s5i {a0 a1 a2 a3 a4 : Value} (hd : decode (xcc M) pc = .ok (.invokestatic idx, 3)) (hN : xokS N 5) (hlk : Cond.methodLink (xy M).cls idx (xy N) ∈ gt) (hlen : (xarg [a0, a1, a2, a3, a4]).length ≤ xnL N) (hfit : xfit M N) (hst : (st.map fun v => v.category).sum ≤ 8) (hv : Evi l Ω N [a0, a1, a2, a3, a4] σ (fun x τ => Ex l Ω M (pc + 3) ls (.int x :: st) τ Q)) : Ex l Ω M pc ls (a4 :: a3 :: a2 :: a1 :: a0 :: st) σ Q := x_s5 hd hN hlk hlen hfit hst hv (fun r τ ⟨x, e, h⟩ => by subst e; exact h)
theorem x_s5v {a0 a1 a2 a3 a4 : Value} (hd : decode (xcc M) pc = .ok (.invokestatic idx, 3)) (hN : xokS N 5) (hlk : Cond.methodLink (xy M).cls idx (xy N) ∈ gt) (hlen : (xarg [a0, a1, a2, a3, a4]).length ≤ xnL N) (hfit : xfit M N) (hst : (st.map fun v => v.category).sum ≤ 8) (hv : Evv l Ω N [a0, a1, a2, a3, a4] σ (fun τ => Ex l Ω M (pc + 3) ls st τ Q)) : Ex l Ω M pc ls (a4 :: a3 :: a2 :: a1 :: a0 :: st) σ Q := x_s5 hd hN hlk hlen hfit hst hv (fun r τ ⟨e, h⟩ => by subst e; exact h)
theorem x_s6i {a0 a1 a2 a3 a4 a5 : Value} (hd : decode (xcc M) pc = .ok (.invokestatic idx, 3)) (hN : xokS N 6) (hlk : Cond.methodLink (xy M).cls idx (xy N) ∈ gt) (hlen : (xarg [a0, a1, a2, a3, a4, a5]).length ≤ xnL N) (hfit : xfit M N) (hst : (st.map fun v => v.category).sum ≤ 8) (hv : Evi l Ω N [a0, a1, a2, a3, a4, a5] σ (fun x τ => Ex l Ω M (pc + 3) ls (.int x :: st) τ Q)) : Ex l Ω M pc ls (a5 :: a4 :: a3 :: a2 :: a1 :: a0 :: st) σ Q := x_s6 hd hN hlk hlen hfit hst hv (fun r τ ⟨x, e, h⟩ => by subst e; exact h)
theorem x_s6v {a0 a1 a2 a3 a4 a5 : Value} (hd : decode (xcc M) pc = .ok (.invokestatic idx, 3)) (hN : xokS N 6) (hlk : Cond.methodLink (xy M).cls idx (xy N) ∈ gt) (hlen : (xarg [a0, a1, a2, a3, a4, a5]).length ≤ xnL N) (hfit : xfit M N) (hst : (st.map fun v => v.category).sum ≤ 8) (hv : Evv l Ω N [a0, a1, a2, a3, a4, a5] σ (fun τ => Ex l Ω M (pc + 3) ls st τ Q)) : Ex l Ω M pc ls (a5 :: a4 :: a3 :: a2 :: a1 :: a0 :: st) σ Q := x_s6 hd hN hlk hlen hfit hst hv (fun r τ ⟨e, h⟩ => by subst e; exact h)
theorem x_pi {v u : Value} (hM : (xy M).cls = RX3) (hy : xy N = yX4_placeOf) (hi : idx = 43) (hd : decode (xcc M) pc = .ok (.invokestatic idx, 3)) (hN : xokS N 2) (hlen : (xarg [v, u]).length ≤ xnL N) (hfit : xfit M N) (hst : (st.map fun v => v.category).sum ≤ 8) (hv : Evi l Ω N [v, u] σ (fun x τ => Ex l Ω M (pc + 3) ls (.int x :: st) τ Q)) : Ex l Ω M pc ls (u :: v :: st) σ Q := x_callP hM hy hi hd hN (xlen_ok _ _ _ hlen) hfit hst hv (fun r τ ⟨x, e, h⟩ => by subst e; exact h)
end XN
/-! THE TWO WORLDS -/
abbrev tF (t : Nat) : List xF := [.inl false, .inl false, .inl false, .inr (t + 1), .inr (t + 2), .inr (t + 3), .inr (t + 4), .inr (t + 5)]
def shC : List xC := [.inr (3, [.inr 1, .inr 7, .inr 13, .inr 19, .inr 21, .inr 30, .inl false]),
  .inr (2, tF 1), .inl (0, 60, 0, 0), .inl (0, 60, 0, 0), .inl (0, 8, 0, 0), .inl (0, 8, 0, 0), .inl (0, 8, 0, 0),
  .inr (2, tF 7), .inl (0, 60, 0, 0), .inl (0, 60, 0, 0), .inl (0, 8, 0, 0), .inl (0, 8, 0, 0), .inl (0, 8, 0, 0),
  .inr (2, tF 13), .inl (0, 60, 0, 0), .inl (0, 60, 0, 0), .inl (0, 8, 0, 0), .inl (0, 8, 0, 0), .inl (0, 8, 0, 0),
  .inr (1, [.inr 20, .inl false, .inl false, .inl false, .inl false, .inl false]), .inl (0, 120, 0, 0),
  .inl (3, 4, 22, 2),
  .inr (0, [.inl false, .inl false, .inr 23]), .inl (1, 40, 0, 0), .inr (0, [.inl false, .inl false, .inr 25]), .inl (1, 40, 0, 0), .inr (0, [.inl false, .inl false, .inr 27]), .inl (1, 40, 0, 0), .inr (0, [.inl false, .inl false, .inr 29]), .inl (1, 40, 0, 0),
  .inl (0, 7, 0, 0)]
def shM : List xC := [.inr (4, [.inr 1, .inr 2, .inr 3, .inl false, .inr 4, .inr 5, .inl false, .inl false, .inr 6, .inl false, .inl false, .inl false, .inl false, .inl true, .inr 7, .inr 8, .inr 9, .inr 10, .inr 11, .inr 12, .inr 13]),
  .inl (0, 147, 0, 0), .inl (0, 147, 0, 0), .inl (0, 147, 0, 0), .inl (0, 7, 0, 0), .inl (0, 20, 0, 0), .inl (0, 120, 0, 0), .inl (2, 54, 0, 0), .inl (2, 18, 0, 0), .inl (2, 54, 0, 0), .inl (0, 4, 0, 0), .inl (0, 4, 0, 0), .inl (1, 160, 0, 0), .inl (1, 40, 0, 0)]
abbrev oC (ad : Nat → Nat) (D : va_G) (cy : Nat → ClassId) : xW := (shC, ad, D, cy, .object RX1)
abbrev oM (ad : Nat → Nat) (D : va_G) (cy : Nat → ClassId) : xW := (shM, ad, D, cy, .char)
/-- the places of the three towns -/
def isT (t : Nat) : Prop := t = 1 ∨ t = 7 ∨ t = 13
theorem isT1 : isT 1 := Or.inl rfl
theorem isT7 : isT 7 := Or.inr (Or.inl rfl)
theorem isT13 : isT 13 := Or.inr (Or.inr rfl)
theorem sT0 {t : Nat} (h : isT t) : shC[t]? = some (.inr (2, tF t)) := by rcases h with rfl | rfl | rfl <;> rfl
theorem sT1 {t : Nat} (h : isT t) : shC[t + 1]? = some (.inl (0, 60, 0, 0)) := by rcases h with rfl | rfl | rfl <;> rfl
theorem sT2 {t : Nat} (h : isT t) : shC[t + 2]? = some (.inl (0, 60, 0, 0)) := by rcases h with rfl | rfl | rfl <;> rfl
theorem sT3 {t : Nat} (h : isT t) : shC[t + 3]? = some (.inl (0, 8, 0, 0)) := by rcases h with rfl | rfl | rfl <;> rfl
theorem sT4 {t : Nat} (h : isT t) : shC[t + 4]? = some (.inl (0, 8, 0, 0)) := by rcases h with rfl | rfl | rfl <;> rfl
theorem sT5 {t : Nat} (h : isT t) : shC[t + 5]? = some (.inl (0, 8, 0, 0)) := by rcases h with rfl | rfl | rfl <;> rfl
theorem sS0 {j : Nat} (h : j < 4) : shC[22 + 2 * j]? = some (.inr (0, [.inl false, .inl false, .inr (23 + 2 * j)])) := by
  match j, h with
  | 0, _ => rfl
  | 1, _ => rfl
  | 2, _ => rfl
  | 3, _ => rfl
theorem sS1 {j : Nat} (h : j < 4) : shC[23 + 2 * j]? = some (.inl (1, 40, 0, 0)) := by
  match j, h with
  | 0, _ => rfl
  | 1, _ => rfl
  | 2, _ => rfl
  | 3, _ => rfl
/-! THE METHODS -/
def mX4_thing : xM := (yX4_thing, cX4_thing, 5, (some .int), xR 2)
def mX4_isStretch : xM := (yX4_isStretch, cX4_isStretch, 2, (some .boolean), xR 1)
def mX4_isStreet : xM := (yX4_isStreet, cX4_isStreet, 1, (some .boolean), xR 0)
def mX4_isWithin : xM := (yX4_isWithin, cX4_isWithin, 3, (some .boolean), xR 0)
def mX4_tell : xM := (yX4_tell, cX4_tell, 3, (some .int), xR 1)
def mX4_placeOf : xM := (yX4_placeOf, cX4_placeOf, 2, (some .int), xR 0)
def mX3_lay : xM := (yX3_lay, cX3_lay, 5, none, xR 1)
def mX4_stretch : xM := (yX4_stretch, cX4_stretch, 5, (some .int), xR 2)
def mX4_high : xM := (yX4_high, cX4_high, 3, (some .int), xR 2)
def mX4_street : xM := (yX4_street, cX4_street, 3, (some .int), xR 5)
def mX3_stretchesWithThing : xM := (yX3_stretchesWithThing, cX3_stretchesWithThing, 4, (some .int), xR 1)
def mX3_bumpsIn : xM := (yX3_bumpsIn, cX3_bumpsIn, 4, (some .int), xR 1)
def mX3_whoGoesIn : xM := (yX3_whoGoesIn, cX3_whoGoesIn, 4, (some .int), xR 0)
def mX3_shakingIn : xM := (yX3_shakingIn, cX3_shakingIn, 4, (some .int), xR 4)
def mX3_shakingBy : xM := (yX3_shakingBy, cX3_shakingBy, 7, (some .int), xR 3)
def mX3_nextPace : xM := (yX3_nextPace, cX3_nextPace, 7, (some .int), xR 2)
def mX0_hurries : xM := (yX0_hurries, cX0_hurries, 1, (some .int), xR 0)
def mX0_slowsTo : xM := (yX0_slowsTo, cX0_slowsTo, 7, (some .int), xR 1)
def mX0_overBump : xM := (yX0_overBump, cX0_overBump, 5, (some .int), xR 0)
def mX0_shakes : xM := (yX0_shakes, cX0_shakes, 4, (some .int), xR 0)
def mX4_now : xM := (yX4_now, cX4_now, 2, (some .int), xR 5)
def mX3_shakingOfAll : xM := (yX3_shakingOfAll, cX3_shakingOfAll, 3, (some .int), xR 4)
def mX3_timeOfAll : xM := (yX3_timeOfAll, cX3_timeOfAll, 3, (some .int), xR 4)
def mX3_timeFor : xM := (yX3_timeFor, cX3_timeFor, 7, (some .int), xR 3)
def mX4_driver : xM := (yX4_driver, cX4_driver, 2, (some .int), xR 2)
def mX4_isKind : xM := (yX4_isKind, cX4_isKind, 1, (some .boolean), xR 0)
def mX3_addDriver : xM := (yX3_addDriver, cX3_addDriver, 3, (some .int), xR 0)
def mX4_of : xM := (yX4_of, cX4_of, 6, (some .int), xR 4)
def mX3_hasDriver : xM := (yX3_hasDriver, cX3_hasDriver, 2, (some .boolean), xR 0)
def mX4_set : xM := (yX4_set, cX4_set, 5, (some .int), xR 2)
def mX4_turn : xM := (yX4_turn, cX4_turn, 4, (some .int), xR 2)
def mX4_as : xM := (yX4_as, cX4_as, 3, (some .int), xR 2)
def mX0_isOf : xM := (yX0_isOf, cX0_isOf, 4, (some .boolean), xR 1)
def mX0_above : xM := (yX0_above, cX0_above, 1, (some .int), xR 0)
def mX4_slows : xM := (yX4_slows, cX4_slows, 4, (some .int), xR 2)
def mX4_quick : xM := (yX4_quick, cX4_quick, 4, (some .int), xR 4)
def mX3_paceOn : xM := (yX3_paceOn, cX3_paceOn, 7, (some .int), xR 3)
def mX4_takes : xM := (yX4_takes, cX4_takes, 3, (some .int), xR 4)
def mX4_shaken : xM := (yX4_shaken, cX4_shaken, 3, (some .int), xR 4)
def mX4_days : xM := (yX4_days, cX4_days, 2, (some .int), xR 7)
def mX3_letDaysGo : xM := (yX3_letDaysGo, cX3_letDaysGo, 3, none, xR 6)
def mX3_letDayGo : xM := (yX3_letDayGo, cX3_letDayGo, 4, none, xR 5)
def mX3_agePaint : xM := (yX3_agePaint, cX3_agePaint, 3, (some .boolean), xR 0)
def mX3_chooseStreet : xM := (yX3_chooseStreet, cX3_chooseStreet, 8, none, xR 4)
def mX4_on : xM := (yX4_on, cX4_on, 3, (some .int), xR 7)
def mX3_becomeLike : xM := (yX3_becomeLike, cX3_becomeLike, 2, none, xR 1)
def mX4_then : xM := (yX4_then, cX4_then, 3, (some .int), xR 7)
def mX4_leaves : xM := (yX4_leaves, cX4_leaves, 3, (some .int), xR 6)
def mX4_tame : xM := (yX4_tame, cX4_tame, 7, (some .int), xR 4)
def mX3_topPace : xM := (yX3_topPace, cX3_topPace, 7, (some .int), xR 3)
def mX4_clear : xM := (yX4_clear, cX4_clear, 7, (some .int), xR 7)
def mX4_lower : xM := (yX4_lower, cX4_lower, 4, (some .int), xR 7)
def mX4_kind : xM := (yX4_kind, cX4_kind, 7, (some .int), xR 4)
def mX4_wish : xM := (yX4_wish, cX4_wish, 9, (some .int), xR 4)
def mX4_drives : xM := (yX4_drives, cX4_drives, 6, (some .int), xR 7)
def mX3_howManyGoElsewhere : xM := (yX3_howManyGoElsewhere, cX3_howManyGoElsewhere, 4, (some .int), xR 0)
def mX4_slowest : xM := (yX4_slowest, cX4_slowest, 5, (some .int), xR 5)
def mX3_timeInAllStreets : xM := (yX3_timeInAllStreets, cX3_timeInAllStreets, 4, (some .int), xR 4)
def mX4_feed : xM := (yX4_feed, cX4_feed, 3, (some .int), xR 2)
def mX2_append : xM := (yX2_append, cX2_append, 4, none, xR 0)
def mX4_wipe : xM := (yX4_wipe, cX4_wipe, 2, (some .int), xR 0)
def mX4_town : xM := (yX4_town, cX4_town, 2, (some .int), xR 8)
def mX2_tellInto : xM := (yX2_tellInto, cX2_tellInto, 3, (some .int), xR 7)
def mX2_nextToken : xM := (yX2_nextToken, cX2_nextToken, 1, none, xR 2)
def mX2_isLetter : xM := (yX2_isLetter, cX2_isLetter, 1, (some .boolean), xR 0)
def mX2_isDigit : xM := (yX2_isDigit, cX2_isDigit, 1, (some .boolean), xR 0)
def mX2_readNumber : xM := (yX2_readNumber, cX2_readNumber, 1, none, xR 1)
def mX2_takeItem : xM := (yX2_takeItem, cX2_takeItem, 4, (some .boolean), xR 6)
def mX2_kindNamed : xM := (yX2_kindNamed, cX2_kindNamed, 1, (some .int), xR 5)
def mX2_isWord : xM := (yX2_isWord, cX2_isWord, 3, (some .boolean), xR 4)
def mJ0_length_8abf5 : xM := (yJ0_length_8abf5, cJ0_length_8abf5, 1, (some .int), xR 1)
def mJ0_coder_7d493 : xM := (yJ0_coder_7d493, cJ0_coder_7d493, 1, (some .byte), xR 0)
def mJ0_charAt_5068e : xM := (yJ0_charAt_5068e, cJ0_charAt_5068e, 2, (some .char), xR 3)
def mJ0_isLatin1_aae02 : xM := (yJ0_isLatin1_aae02, cJ0_isLatin1_aae02, 1, (some .boolean), xR 0)
def mJ1_charAt_3b067 : xM := (yJ1_charAt_3b067, cJ1_charAt_3b067, 2, (some .char), xR 2)
def mJ0_checkIndex_df160 : xM := (yJ0_checkIndex_df160, cJ0_checkIndex_df160, 2, none, xR 1)
def mJ3_checkIndex_8e157 : xM := (yJ3_checkIndex_8e157, cJ3_checkIndex_8e157, 3, (some .int), xR 0)
def mX2_takeDriver : xM := (yX2_takeDriver, cX2_takeDriver, 4, (some .boolean), xR 5)
def mX2_isNumber : xM := (yX2_isNumber, cX2_isNumber, 3, (some .boolean), xR 0)
def mX2_thingNamed : xM := (yX2_thingNamed, cX2_thingNamed, 1, (some .int), xR 5)
def mX2_takeThing : xM := (yX2_takeThing, cX2_takeThing, 4, (some .boolean), xR 3)
def mX4_sheet : xM := (yX4_sheet, cX4_sheet, 4, (some .int), xR 2)
def mX1_become : xM := (yX1_become, cX1_become, 4, none, xR 0)
def mX4_write : xM := (yX4_write, cX4_write, 8, (some .long), xR 2)
def mX4_sheetFault : xM := (yX4_sheetFault, cX4_sheetFault, 2, (some .int), xR 1)
def mX1_put : xM := (yX1_put, cX1_put, 4, none, xR 0)
def mX4_copy : xM := (yX4_copy, cX4_copy, 8, (some .int), xR 2)
def mX1_hasPart : xM := (yX1_hasPart, cX1_hasPart, 3, (some .boolean), xR 0)
def mX4_lays : xM := (yX4_lays, cX4_lays, 9, (some .int), xR 2)
def mX4_book : xM := (yX4_book, cX4_book, 7, (some .int), xR 4)
def mX4_read : xM := (yX4_read, cX4_read, 8, (some .int), xR 4)
def mX3_goesJustAs : xM := (yX3_goesJustAs, cX3_goesJustAs, 8, (some .boolean), xR 3)
def mX4_image : xM := (yX4_image, cX4_image, 1, (some .int), xR 2)
def mX4_undo : xM := (yX4_undo, cX4_undo, 1, (some .int), xR 2)
def mX4_tear : xM := (yX4_tear, cX4_tear, 2, (some .int), xR 0)
def mX4_count : xM := (yX4_count, cX4_count, 2, (some .int), xR 3)
def mX3_bumpsInAll : xM := (yX3_bumpsInAll, cX3_bumpsInAll, 3, (some .int), xR 2)
def mX3_wishesOfAll : xM := (yX3_wishesOfAll, cX3_wishesOfAll, 3, (some .int), xR 0)
def mX4_status : xM := (yX4_status, cX4_status, 4, (some .int), xR 2)
def mX5_thing : xM := (yX5_thing, cX5_thing, 5, (some .int), xR 2)
def mX5_isStreet : xM := (yX5_isStreet, cX5_isStreet, 1, (some .boolean), xR 1)
def mX5_in1 : xM := (yX5_in1, cX5_in1, 3, (some .boolean), xR 0)
def mX5_isStretch : xM := (yX5_isStretch, cX5_isStretch, 1, (some .boolean), xR 1)
def mX5_no : xM := (yX5_no, cX5_no, 2, (some .int), xR 0)
def mX5_lies : xM := (yX5_lies, cX5_lies, 4, none, xR 0)
def mX5_stretch : xM := (yX5_stretch, cX5_stretch, 4, (some .int), xR 2)
def mX5_high : xM := (yX5_high, cX5_high, 3, (some .int), xR 1)
def mX5_street : xM := (yX5_street, cX5_street, 7, (some .int), xR 6)
def mX5_get : xM := (yX5_get, cX5_get, 3, (some .int), xR 0)
def mX5_shookBy : xM := (yX5_shookBy, cX5_shookBy, 3, (some .int), xR 5)
def mX5_goesThrough : xM := (yX5_goesThrough, cX5_goesThrough, 8, none, xR 4)
def mX5_hurriesOf : xM := (yX5_hurriesOf, cX5_hurriesOf, 1, (some .int), xR 0)
def mX5_less : xM := (yX5_less, cX5_less, 2, (some .int), xR 0)
def mX5_slowsTo : xM := (yX5_slowsTo, cX5_slowsTo, 6, (some .int), xR 3)
def mX5_plainSlow : xM := (yX5_plainSlow, cX5_plainSlow, 5, (some .int), xR 2)
def mX5_atBump : xM := (yX5_atBump, cX5_atBump, 4, (some .int), xR 1)
def mX5_isBus : xM := (yX5_isBus, cX5_isBus, 1, (some .boolean), xR 0)
def mX5_isLocal : xM := (yX5_isLocal, cX5_isLocal, 1, (some .boolean), xR 0)
def mX5_shakesAt : xM := (yX5_shakesAt, cX5_shakesAt, 4, (some .int), xR 0)
def mX5_thingsIn : xM := (yX5_thingsIn, cX5_thingsIn, 4, (some .int), xR 0)
def mX5_bumpsIn : xM := (yX5_bumpsIn, cX5_bumpsIn, 4, (some .int), xR 0)
def mX5_now : xM := (yX5_now, cX5_now, 2, (some .int), xR 7)
def mX5_allShook : xM := (yX5_allShook, cX5_allShook, 3, (some .int), xR 6)
def mX5_allTook : xM := (yX5_allTook, cX5_allTook, 3, (some .int), xR 6)
def mX5_tookBy : xM := (yX5_tookBy, cX5_tookBy, 3, (some .int), xR 5)
def mX5_driver : xM := (yX5_driver, cX5_driver, 2, (some .int), xR 2)
def mX5_addsDriver : xM := (yX5_addsDriver, cX5_addsDriver, 3, none, xR 1)
def mX5_puts : xM := (yX5_puts, cX5_puts, 4, none, xR 0)
def mX5_of : xM := (yX5_of, cX5_of, 3, (some .int), xR 6)
def mX5_isDriver : xM := (yX5_isDriver, cX5_isDriver, 2, (some .boolean), xR 1)
def mX5_set : xM := (yX5_set, cX5_set, 5, (some .int), xR 2)
def mX5_isWish : xM := (yX5_isWish, cX5_isWish, 1, (some .boolean), xR 1)
def mX5_turn : xM := (yX5_turn, cX5_turn, 4, (some .int), xR 2)
def mX5_as : xM := (yX5_as, cX5_as, 4, (some .int), xR 2)
def mX5_slows : xM := (yX5_slows, cX5_slows, 5, (some .int), xR 4)
def mX5_quick : xM := (yX5_quick, cX5_quick, 4, (some .int), xR 5)
def mX5_areBoth : xM := (yX5_areBoth, cX5_areBoth, 3, (some .boolean), xR 2)
def mX5_takes : xM := (yX5_takes, cX5_takes, 3, (some .int), xR 6)
def mX5_shaken : xM := (yX5_shaken, cX5_shaken, 3, (some .int), xR 6)
def mX5_days : xM := (yX5_days, cX5_days, 2, (some .int), xR 8)
def mX5_goes : xM := (yX5_goes, cX5_goes, 4, none, xR 7)
def mX5_chooses : xM := (yX5_chooses, cX5_chooses, 6, none, xR 6)
def mX5_on : xM := (yX5_on, cX5_on, 4, (some .int), xR 8)
def mX5_setsAside : xM := (yX5_setsAside, cX5_setsAside, 2, none, xR 0)
def mX5_laysBack : xM := (yX5_laysBack, cX5_laysBack, 2, none, xR 0)
def mX5_then : xM := (yX5_then, cX5_then, 3, (some .int), xR 9)
def mX5_onBy : xM := (yX5_onBy, cX5_onBy, 4, (some .int), xR 8)
def mX5_leaves : xM := (yX5_leaves, cX5_leaves, 4, (some .int), xR 8)
def mX5_tame : xM := (yX5_tame, cX5_tame, 6, (some .int), xR 5)
def mX5_quickest : xM := (yX5_quickest, cX5_quickest, 3, (some .int), xR 0)
def mX5_clear : xM := (yX5_clear, cX5_clear, 8, (some .int), xR 9)
def mX5_lower : xM := (yX5_lower, cX5_lower, 4, (some .int), xR 9)
def mX5_kind : xM := (yX5_kind, cX5_kind, 6, (some .int), xR 5)
def mX5_wish : xM := (yX5_wish, cX5_wish, 8, (some .int), xR 5)
def mX5_drives : xM := (yX5_drives, cX5_drives, 7, (some .int), xR 8)
def mX5_slowest : xM := (yX5_slowest, cX5_slowest, 5, (some .int), xR 6)
def mX5_feed : xM := (yX5_feed, cX5_feed, 4, (some .int), xR 1)
def mX5_wipe : xM := (yX5_wipe, cX5_wipe, 2, (some .int), xR 0)
def mX5_town : xM := (yX5_town, cX5_town, 3, (some .int), xR 6)
def mX5_nextToken : xM := (yX5_nextToken, cX5_nextToken, 1, none, xR 2)
def mX5_isLetter : xM := (yX5_isLetter, cX5_isLetter, 1, (some .boolean), xR 1)
def mX5_isDigit : xM := (yX5_isDigit, cX5_isDigit, 1, (some .boolean), xR 1)
def mX5_readsItem : xM := (yX5_readsItem, cX5_readsItem, 4, (some .boolean), xR 5)
def mX5_wordOf : xM := (yX5_wordOf, cX5_wordOf, 7, (some .int), xR 0)
def mX5_readsDriver : xM := (yX5_readsDriver, cX5_readsDriver, 5, (some .boolean), xR 4)
def mX5_takesNumber : xM := (yX5_takesNumber, cX5_takesNumber, 4, (some .int), xR 3)
def mX5_readsThing : xM := (yX5_readsThing, cX5_readsThing, 4, (some .boolean), xR 4)
def mX5_sheet : xM := (yX5_sheet, cX5_sheet, 5, (some .int), xR 2)
def mX5_isSheet : xM := (yX5_isSheet, cX5_isSheet, 1, (some .boolean), xR 1)
def mX5_write : xM := (yX5_write, cX5_write, 8, (some .long), xR 3)
def mX5_wrongSheet : xM := (yX5_wrongSheet, cX5_wrongSheet, 2, (some .int), xR 2)
def mX5_told : xM := (yX5_told, cX5_told, 3, (some .long), xR 0)
def mX5_tells : xM := (yX5_tells, cX5_tells, 5, none, xR 0)
def mX5_copy : xM := (yX5_copy, cX5_copy, 7, (some .int), xR 2)
def mX5_lays : xM := (yX5_lays, cX5_lays, 6, (some .int), xR 4)
def mX5_wrongWith : xM := (yX5_wrongWith, cX5_wrongWith, 4, (some .int), xR 3)
def mX5_book : xM := (yX5_book, cX5_book, 7, (some .int), xR 5)
def mX5_read : xM := (yX5_read, cX5_read, 8, (some .int), xR 5)
def mX5_isSo : xM := (yX5_isSo, cX5_isSo, 4, (some .boolean), xR 1)
def mX5_image : xM := (yX5_image, cX5_image, 2, (some .int), xR 0)
def mX5_undo : xM := (yX5_undo, cX5_undo, 2, (some .int), xR 1)
def mX5_tear : xM := (yX5_tear, cX5_tear, 2, (some .int), xR 0)
def mX5_count : xM := (yX5_count, cX5_count, 4, (some .int), xR 1)
def mX5_status : xM := (yX5_status, cX5_status, 4, (some .int), xR 1)
theorem okX4_thing : xokV mX4_thing 3 := ⟨⟨in_X4, co_X4_thing, by decide, ⟨by decide, by decide, by decide +kernel⟩, rfl, rfl⟩, im_X4_thing, se_X4_thing⟩
theorem okX4_isStretch : xokS mX4_isStretch 2 := ⟨⟨in_X4, co_X4_isStretch, by decide, ⟨by decide, by decide, by decide +kernel⟩, rfl, rfl⟩, sm_X4_isStretch⟩
theorem okX4_isStreet : xokS mX4_isStreet 1 := ⟨⟨in_X4, co_X4_isStreet, by decide, ⟨by decide, by decide, by decide +kernel⟩, rfl, rfl⟩, sm_X4_isStreet⟩
theorem okX4_isWithin : xokS mX4_isWithin 3 := ⟨⟨in_X4, co_X4_isWithin, by decide, ⟨by decide, by decide, by decide +kernel⟩, rfl, rfl⟩, sm_X4_isWithin⟩
theorem okX4_tell : xokV mX4_tell 1 := ⟨⟨in_X4, co_X4_tell, by decide, ⟨by decide, by decide, by decide +kernel⟩, rfl, rfl⟩, im_X4_tell, se_X4_tell⟩
theorem okX4_placeOf : xokS mX4_placeOf 2 := ⟨⟨in_X4, co_X4_placeOf, by decide, ⟨by decide, by decide, by decide +kernel⟩, rfl, rfl⟩, sm_X4_placeOf⟩
theorem okX3_lay : xokV mX3_lay 3 := ⟨⟨in_X3, co_X3_lay, by decide, ⟨by decide, by decide, by decide +kernel⟩, rfl, rfl⟩, im_X3_lay, se_X3_lay⟩
theorem okX4_stretch : xokV mX4_stretch 3 := ⟨⟨in_X4, co_X4_stretch, by decide, ⟨by decide, by decide, by decide +kernel⟩, rfl, rfl⟩, im_X4_stretch, se_X4_stretch⟩
theorem okX4_high : xokV mX4_high 1 := ⟨⟨in_X4, co_X4_high, by decide, ⟨by decide, by decide, by decide +kernel⟩, rfl, rfl⟩, im_X4_high, se_X4_high⟩
theorem okX4_street : xokV mX4_street 2 := ⟨⟨in_X4, co_X4_street, by decide, ⟨by decide, by decide, by decide +kernel⟩, rfl, rfl⟩, im_X4_street, se_X4_street⟩
theorem okX3_stretchesWithThing : xokV mX3_stretchesWithThing 1 := ⟨⟨in_X3, co_X3_stretchesWithThing, by decide, ⟨by decide, by decide, by decide +kernel⟩, rfl, rfl⟩, im_X3_stretchesWithThing, se_X3_stretchesWithThing⟩
theorem okX3_bumpsIn : xokV mX3_bumpsIn 1 := ⟨⟨in_X3, co_X3_bumpsIn, by decide, ⟨by decide, by decide, by decide +kernel⟩, rfl, rfl⟩, im_X3_bumpsIn, se_X3_bumpsIn⟩
theorem okX3_whoGoesIn : xokV mX3_whoGoesIn 1 := ⟨⟨in_X3, co_X3_whoGoesIn, by decide, ⟨by decide, by decide, by decide +kernel⟩, rfl, rfl⟩, im_X3_whoGoesIn, se_X3_whoGoesIn⟩
theorem okX3_shakingIn : xokV mX3_shakingIn 1 := ⟨⟨in_X3, co_X3_shakingIn, by decide, ⟨by decide, by decide, by decide +kernel⟩, rfl, rfl⟩, im_X3_shakingIn, se_X3_shakingIn⟩
theorem okX3_shakingBy : xokV mX3_shakingBy 3 := ⟨⟨in_X3, co_X3_shakingBy, by decide, ⟨by decide, by decide, by decide +kernel⟩, rfl, rfl⟩, im_X3_shakingBy, se_X3_shakingBy⟩
theorem okX3_nextPace : xokV mX3_nextPace 4 := ⟨⟨in_X3, co_X3_nextPace, by decide, ⟨by decide, by decide, by decide +kernel⟩, rfl, rfl⟩, im_X3_nextPace, se_X3_nextPace⟩
theorem okX0_hurries : xokS mX0_hurries 1 := ⟨⟨in_X0, co_X0_hurries, by decide, ⟨by decide, by decide, by decide +kernel⟩, rfl, rfl⟩, sm_X0_hurries⟩
theorem okX0_slowsTo : xokS mX0_slowsTo 5 := ⟨⟨in_X0, co_X0_slowsTo, by decide, ⟨by decide, by decide, by decide +kernel⟩, rfl, rfl⟩, sm_X0_slowsTo⟩
theorem okX0_overBump : xokS mX0_overBump 3 := ⟨⟨in_X0, co_X0_overBump, by decide, ⟨by decide, by decide, by decide +kernel⟩, rfl, rfl⟩, sm_X0_overBump⟩
theorem okX0_shakes : xokS mX0_shakes 3 := ⟨⟨in_X0, co_X0_shakes, by decide, ⟨by decide, by decide, by decide +kernel⟩, rfl, rfl⟩, sm_X0_shakes⟩
theorem okX4_now : xokV mX4_now 1 := ⟨⟨in_X4, co_X4_now, by decide, ⟨by decide, by decide, by decide +kernel⟩, rfl, rfl⟩, im_X4_now, se_X4_now⟩
theorem okX3_shakingOfAll : xokV mX3_shakingOfAll 0 := ⟨⟨in_X3, co_X3_shakingOfAll, by decide, ⟨by decide, by decide, by decide +kernel⟩, rfl, rfl⟩, im_X3_shakingOfAll, se_X3_shakingOfAll⟩
theorem okX3_timeOfAll : xokV mX3_timeOfAll 0 := ⟨⟨in_X3, co_X3_timeOfAll, by decide, ⟨by decide, by decide, by decide +kernel⟩, rfl, rfl⟩, im_X3_timeOfAll, se_X3_timeOfAll⟩
theorem okX3_timeFor : xokV mX3_timeFor 3 := ⟨⟨in_X3, co_X3_timeFor, by decide, ⟨by decide, by decide, by decide +kernel⟩, rfl, rfl⟩, im_X3_timeFor, se_X3_timeFor⟩
theorem okX4_driver : xokV mX4_driver 1 := ⟨⟨in_X4, co_X4_driver, by decide, ⟨by decide, by decide, by decide +kernel⟩, rfl, rfl⟩, im_X4_driver, se_X4_driver⟩
theorem okX4_isKind : xokS mX4_isKind 1 := ⟨⟨in_X4, co_X4_isKind, by decide, ⟨by decide, by decide, by decide +kernel⟩, rfl, rfl⟩, sm_X4_isKind⟩
theorem okX3_addDriver : xokV mX3_addDriver 1 := ⟨⟨in_X3, co_X3_addDriver, by decide, ⟨by decide, by decide, by decide +kernel⟩, rfl, rfl⟩, im_X3_addDriver, se_X3_addDriver⟩
theorem okX4_of : xokV mX4_of 2 := ⟨⟨in_X4, co_X4_of, by decide, ⟨by decide, by decide, by decide +kernel⟩, rfl, rfl⟩, im_X4_of, se_X4_of⟩
theorem okX3_hasDriver : xokV mX3_hasDriver 1 := ⟨⟨in_X3, co_X3_hasDriver, by decide, ⟨by decide, by decide, by decide +kernel⟩, rfl, rfl⟩, im_X3_hasDriver, se_X3_hasDriver⟩
theorem okX4_set : xokV mX4_set 3 := ⟨⟨in_X4, co_X4_set, by decide, ⟨by decide, by decide, by decide +kernel⟩, rfl, rfl⟩, im_X4_set, se_X4_set⟩
theorem okX4_turn : xokV mX4_turn 2 := ⟨⟨in_X4, co_X4_turn, by decide, ⟨by decide, by decide, by decide +kernel⟩, rfl, rfl⟩, im_X4_turn, se_X4_turn⟩
theorem okX4_as : xokV mX4_as 2 := ⟨⟨in_X4, co_X4_as, by decide, ⟨by decide, by decide, by decide +kernel⟩, rfl, rfl⟩, im_X4_as, se_X4_as⟩
theorem okX0_isOf : xokS mX0_isOf 2 := ⟨⟨in_X0, co_X0_isOf, by decide, ⟨by decide, by decide, by decide +kernel⟩, rfl, rfl⟩, sm_X0_isOf⟩
theorem okX0_above : xokS mX0_above 1 := ⟨⟨in_X0, co_X0_above, by decide, ⟨by decide, by decide, by decide +kernel⟩, rfl, rfl⟩, sm_X0_above⟩
theorem okX4_slows : xokV mX4_slows 3 := ⟨⟨in_X4, co_X4_slows, by decide, ⟨by decide, by decide, by decide +kernel⟩, rfl, rfl⟩, im_X4_slows, se_X4_slows⟩
theorem okX4_quick : xokV mX4_quick 3 := ⟨⟨in_X4, co_X4_quick, by decide, ⟨by decide, by decide, by decide +kernel⟩, rfl, rfl⟩, im_X4_quick, se_X4_quick⟩
theorem okX3_paceOn : xokV mX3_paceOn 4 := ⟨⟨in_X3, co_X3_paceOn, by decide, ⟨by decide, by decide, by decide +kernel⟩, rfl, rfl⟩, im_X3_paceOn, se_X3_paceOn⟩
theorem okX4_takes : xokV mX4_takes 2 := ⟨⟨in_X4, co_X4_takes, by decide, ⟨by decide, by decide, by decide +kernel⟩, rfl, rfl⟩, im_X4_takes, se_X4_takes⟩
theorem okX4_shaken : xokV mX4_shaken 2 := ⟨⟨in_X4, co_X4_shaken, by decide, ⟨by decide, by decide, by decide +kernel⟩, rfl, rfl⟩, im_X4_shaken, se_X4_shaken⟩
theorem okX4_days : xokV mX4_days 1 := ⟨⟨in_X4, co_X4_days, by decide, ⟨by decide, by decide, by decide +kernel⟩, rfl, rfl⟩, im_X4_days, se_X4_days⟩
theorem okX3_letDaysGo : xokV mX3_letDaysGo 1 := ⟨⟨in_X3, co_X3_letDaysGo, by decide, ⟨by decide, by decide, by decide +kernel⟩, rfl, rfl⟩, im_X3_letDaysGo, se_X3_letDaysGo⟩
theorem okX3_letDayGo : xokV mX3_letDayGo 1 := ⟨⟨in_X3, co_X3_letDayGo, by decide, ⟨by decide, by decide, by decide +kernel⟩, rfl, rfl⟩, im_X3_letDayGo, se_X3_letDayGo⟩
theorem okX3_agePaint : xokV mX3_agePaint 0 := ⟨⟨in_X3, co_X3_agePaint, by decide, ⟨by decide, by decide, by decide +kernel⟩, rfl, rfl⟩, im_X3_agePaint, se_X3_agePaint⟩
theorem okX3_chooseStreet : xokV mX3_chooseStreet 1 := ⟨⟨in_X3, co_X3_chooseStreet, by decide, ⟨by decide, by decide, by decide +kernel⟩, rfl, rfl⟩, im_X3_chooseStreet, se_X3_chooseStreet⟩
theorem okX4_on : xokV mX4_on 2 := ⟨⟨in_X4, co_X4_on, by decide, ⟨by decide, by decide, by decide +kernel⟩, rfl, rfl⟩, im_X4_on, se_X4_on⟩
theorem okX3_becomeLike : xokV mX3_becomeLike 1 := ⟨⟨in_X3, co_X3_becomeLike, by decide, ⟨by decide, by decide, by decide +kernel⟩, rfl, rfl⟩, im_X3_becomeLike, se_X3_becomeLike⟩
theorem okX4_then : xokV mX4_then 2 := ⟨⟨in_X4, co_X4_then, by decide, ⟨by decide, by decide, by decide +kernel⟩, rfl, rfl⟩, im_X4_then, se_X4_then⟩
theorem okX4_leaves : xokV mX4_leaves 1 := ⟨⟨in_X4, co_X4_leaves, by decide, ⟨by decide, by decide, by decide +kernel⟩, rfl, rfl⟩, im_X4_leaves, se_X4_leaves⟩
theorem okX4_tame : xokV mX4_tame 2 := ⟨⟨in_X4, co_X4_tame, by decide, ⟨by decide, by decide, by decide +kernel⟩, rfl, rfl⟩, im_X4_tame, se_X4_tame⟩
theorem okX3_topPace : xokV mX3_topPace 3 := ⟨⟨in_X3, co_X3_topPace, by decide, ⟨by decide, by decide, by decide +kernel⟩, rfl, rfl⟩, im_X3_topPace, se_X3_topPace⟩
theorem okX4_clear : xokV mX4_clear 2 := ⟨⟨in_X4, co_X4_clear, by decide, ⟨by decide, by decide, by decide +kernel⟩, rfl, rfl⟩, im_X4_clear, se_X4_clear⟩
theorem okX4_lower : xokV mX4_lower 2 := ⟨⟨in_X4, co_X4_lower, by decide, ⟨by decide, by decide, by decide +kernel⟩, rfl, rfl⟩, im_X4_lower, se_X4_lower⟩
theorem okX4_kind : xokV mX4_kind 2 := ⟨⟨in_X4, co_X4_kind, by decide, ⟨by decide, by decide, by decide +kernel⟩, rfl, rfl⟩, im_X4_kind, se_X4_kind⟩
theorem okX4_wish : xokV mX4_wish 3 := ⟨⟨in_X4, co_X4_wish, by decide, ⟨by decide, by decide, by decide +kernel⟩, rfl, rfl⟩, im_X4_wish, se_X4_wish⟩
theorem okX4_drives : xokV mX4_drives 1 := ⟨⟨in_X4, co_X4_drives, by decide, ⟨by decide, by decide, by decide +kernel⟩, rfl, rfl⟩, im_X4_drives, se_X4_drives⟩
theorem okX3_howManyGoElsewhere : xokV mX3_howManyGoElsewhere 1 := ⟨⟨in_X3, co_X3_howManyGoElsewhere, by decide, ⟨by decide, by decide, by decide +kernel⟩, rfl, rfl⟩, im_X3_howManyGoElsewhere, se_X3_howManyGoElsewhere⟩
theorem okX4_slowest : xokV mX4_slowest 0 := ⟨⟨in_X4, co_X4_slowest, by decide, ⟨by decide, by decide, by decide +kernel⟩, rfl, rfl⟩, im_X4_slowest, se_X4_slowest⟩
theorem okX3_timeInAllStreets : xokV mX3_timeInAllStreets 1 := ⟨⟨in_X3, co_X3_timeInAllStreets, by decide, ⟨by decide, by decide, by decide +kernel⟩, rfl, rfl⟩, im_X3_timeInAllStreets, se_X3_timeInAllStreets⟩
theorem okX4_feed : xokV mX4_feed 2 := ⟨⟨in_X4, co_X4_feed, by decide, ⟨by decide, by decide, by decide +kernel⟩, rfl, rfl⟩, im_X4_feed, se_X4_feed⟩
theorem okX2_append : xokV mX2_append 2 := ⟨⟨in_X2, co_X2_append, by decide, ⟨by decide, by decide, by decide +kernel⟩, rfl, rfl⟩, im_X2_append, se_X2_append⟩
theorem okX4_wipe : xokV mX4_wipe 0 := ⟨⟨in_X4, co_X4_wipe, by decide, ⟨by decide, by decide, by decide +kernel⟩, rfl, rfl⟩, im_X4_wipe, se_X4_wipe⟩
theorem okX4_town : xokV mX4_town 0 := ⟨⟨in_X4, co_X4_town, by decide, ⟨by decide, by decide, by decide +kernel⟩, rfl, rfl⟩, im_X4_town, se_X4_town⟩
theorem okX2_tellInto : xokV mX2_tellInto 1 := ⟨⟨in_X2, co_X2_tellInto, by decide, ⟨by decide, by decide, by decide +kernel⟩, rfl, rfl⟩, im_X2_tellInto, se_X2_tellInto⟩
theorem okX2_nextToken : xokV mX2_nextToken 0 := ⟨⟨in_X2, co_X2_nextToken, by decide, ⟨by decide, by decide, by decide +kernel⟩, rfl, rfl⟩, im_X2_nextToken, se_X2_nextToken⟩
theorem okX2_isLetter : xokS mX2_isLetter 1 := ⟨⟨in_X2, co_X2_isLetter, by decide, ⟨by decide, by decide, by decide +kernel⟩, rfl, rfl⟩, sm_X2_isLetter⟩
theorem okX2_isDigit : xokS mX2_isDigit 1 := ⟨⟨in_X2, co_X2_isDigit, by decide, ⟨by decide, by decide, by decide +kernel⟩, rfl, rfl⟩, sm_X2_isDigit⟩
theorem okX2_readNumber : xokV mX2_readNumber 0 := ⟨⟨in_X2, co_X2_readNumber, by decide, ⟨by decide, by decide, by decide +kernel⟩, rfl, rfl⟩, im_X2_readNumber, se_X2_readNumber⟩
theorem okX2_takeItem : xokV mX2_takeItem 1 := ⟨⟨in_X2, co_X2_takeItem, by decide, ⟨by decide, by decide, by decide +kernel⟩, rfl, rfl⟩, im_X2_takeItem, se_X2_takeItem⟩
theorem okX2_kindNamed : xokV mX2_kindNamed 0 := ⟨⟨in_X2, co_X2_kindNamed, by decide, ⟨by decide, by decide, by decide +kernel⟩, rfl, rfl⟩, im_X2_kindNamed, se_X2_kindNamed⟩
theorem okX2_isWord : xokV mX2_isWord 1 := ⟨⟨in_X2, co_X2_isWord, by decide, ⟨by decide, by decide, by decide +kernel⟩, rfl, rfl⟩, im_X2_isWord, se_X2_isWord⟩
theorem okJ0_length_8abf5 : xokV mJ0_length_8abf5 0 := ⟨⟨in_J0, co_J0_length_8abf5, by decide, ⟨by decide, by decide, by decide +kernel⟩, rfl, rfl⟩, im_J0_length_8abf5, se_J0_length_8abf5⟩
theorem okJ0_coder_7d493 : xokV mJ0_coder_7d493 0 := ⟨⟨in_J0, co_J0_coder_7d493, by decide, ⟨by decide, by decide, by decide +kernel⟩, rfl, rfl⟩, im_J0_coder_7d493, se_J0_coder_7d493⟩
theorem okJ0_charAt_5068e : xokV mJ0_charAt_5068e 1 := ⟨⟨in_J0, co_J0_charAt_5068e, by decide, ⟨by decide, by decide, by decide +kernel⟩, rfl, rfl⟩, im_J0_charAt_5068e, se_J0_charAt_5068e⟩
theorem okJ0_isLatin1_aae02 : xokV mJ0_isLatin1_aae02 0 := ⟨⟨in_J0, co_J0_isLatin1_aae02, by decide, ⟨by decide, by decide, by decide +kernel⟩, rfl, rfl⟩, im_J0_isLatin1_aae02, se_J0_isLatin1_aae02⟩
theorem okJ1_charAt_3b067 : xokS mJ1_charAt_3b067 2 := ⟨⟨in_J1, co_J1_charAt_3b067, by decide, ⟨by decide, by decide, by decide +kernel⟩, rfl, rfl⟩, sm_J1_charAt_3b067⟩
theorem okJ0_checkIndex_df160 : xokS mJ0_checkIndex_df160 2 := ⟨⟨in_J0, co_J0_checkIndex_df160, by decide, ⟨by decide, by decide, by decide +kernel⟩, rfl, rfl⟩, sm_J0_checkIndex_df160⟩
theorem okJ3_checkIndex_8e157 : xokS mJ3_checkIndex_8e157 3 := ⟨⟨in_J3, co_J3_checkIndex_8e157, by decide, ⟨by decide, by decide, by decide +kernel⟩, rfl, rfl⟩, sm_J3_checkIndex_8e157⟩
theorem okX2_takeDriver : xokV mX2_takeDriver 2 := ⟨⟨in_X2, co_X2_takeDriver, by decide, ⟨by decide, by decide, by decide +kernel⟩, rfl, rfl⟩, im_X2_takeDriver, se_X2_takeDriver⟩
theorem okX2_isNumber : xokV mX2_isNumber 2 := ⟨⟨in_X2, co_X2_isNumber, by decide, ⟨by decide, by decide, by decide +kernel⟩, rfl, rfl⟩, im_X2_isNumber, se_X2_isNumber⟩
theorem okX2_thingNamed : xokV mX2_thingNamed 0 := ⟨⟨in_X2, co_X2_thingNamed, by decide, ⟨by decide, by decide, by decide +kernel⟩, rfl, rfl⟩, im_X2_thingNamed, se_X2_thingNamed⟩
theorem okX2_takeThing : xokV mX2_takeThing 2 := ⟨⟨in_X2, co_X2_takeThing, by decide, ⟨by decide, by decide, by decide +kernel⟩, rfl, rfl⟩, im_X2_takeThing, se_X2_takeThing⟩
theorem okX4_sheet : xokV mX4_sheet 3 := ⟨⟨in_X4, co_X4_sheet, by decide, ⟨by decide, by decide, by decide +kernel⟩, rfl, rfl⟩, im_X4_sheet, se_X4_sheet⟩
theorem okX1_become : xokV mX1_become 2 := ⟨⟨in_X1, co_X1_become, by decide, ⟨by decide, by decide, by decide +kernel⟩, rfl, rfl⟩, im_X1_become, se_X1_become⟩
theorem okX4_write : xokV mX4_write 3 := ⟨⟨in_X4, co_X4_write, by decide, ⟨by decide, by decide, by decide +kernel⟩, rfl, rfl⟩, im_X4_write, se_X4_write⟩
theorem okX4_sheetFault : xokV mX4_sheetFault 1 := ⟨⟨in_X4, co_X4_sheetFault, by decide, ⟨by decide, by decide, by decide +kernel⟩, rfl, rfl⟩, im_X4_sheetFault, se_X4_sheetFault⟩
theorem okX1_put : xokV mX1_put 2 := ⟨⟨in_X1, co_X1_put, by decide, ⟨by decide, by decide, by decide +kernel⟩, rfl, rfl⟩, im_X1_put, se_X1_put⟩
theorem okX4_copy : xokV mX4_copy 5 := ⟨⟨in_X4, co_X4_copy, by decide, ⟨by decide, by decide, by decide +kernel⟩, rfl, rfl⟩, im_X4_copy, se_X4_copy⟩
theorem okX1_hasPart : xokV mX1_hasPart 2 := ⟨⟨in_X1, co_X1_hasPart, by decide, ⟨by decide, by decide, by decide +kernel⟩, rfl, rfl⟩, im_X1_hasPart, se_X1_hasPart⟩
theorem okX4_lays : xokV mX4_lays 2 := ⟨⟨in_X4, co_X4_lays, by decide, ⟨by decide, by decide, by decide +kernel⟩, rfl, rfl⟩, im_X4_lays, se_X4_lays⟩
theorem okX4_book : xokV mX4_book 3 := ⟨⟨in_X4, co_X4_book, by decide, ⟨by decide, by decide, by decide +kernel⟩, rfl, rfl⟩, im_X4_book, se_X4_book⟩
theorem okX4_read : xokV mX4_read 3 := ⟨⟨in_X4, co_X4_read, by decide, ⟨by decide, by decide, by decide +kernel⟩, rfl, rfl⟩, im_X4_read, se_X4_read⟩
theorem okX3_goesJustAs : xokV mX3_goesJustAs 4 := ⟨⟨in_X3, co_X3_goesJustAs, by decide, ⟨by decide, by decide, by decide +kernel⟩, rfl, rfl⟩, im_X3_goesJustAs, se_X3_goesJustAs⟩
theorem okX4_image : xokV mX4_image 0 := ⟨⟨in_X4, co_X4_image, by decide, ⟨by decide, by decide, by decide +kernel⟩, rfl, rfl⟩, im_X4_image, se_X4_image⟩
theorem okX4_undo : xokV mX4_undo 0 := ⟨⟨in_X4, co_X4_undo, by decide, ⟨by decide, by decide, by decide +kernel⟩, rfl, rfl⟩, im_X4_undo, se_X4_undo⟩
theorem okX4_tear : xokV mX4_tear 0 := ⟨⟨in_X4, co_X4_tear, by decide, ⟨by decide, by decide, by decide +kernel⟩, rfl, rfl⟩, im_X4_tear, se_X4_tear⟩
theorem okX4_count : xokV mX4_count 1 := ⟨⟨in_X4, co_X4_count, by decide, ⟨by decide, by decide, by decide +kernel⟩, rfl, rfl⟩, im_X4_count, se_X4_count⟩
theorem okX3_bumpsInAll : xokV mX3_bumpsInAll 0 := ⟨⟨in_X3, co_X3_bumpsInAll, by decide, ⟨by decide, by decide, by decide +kernel⟩, rfl, rfl⟩, im_X3_bumpsInAll, se_X3_bumpsInAll⟩
theorem okX3_wishesOfAll : xokV mX3_wishesOfAll 0 := ⟨⟨in_X3, co_X3_wishesOfAll, by decide, ⟨by decide, by decide, by decide +kernel⟩, rfl, rfl⟩, im_X3_wishesOfAll, se_X3_wishesOfAll⟩
theorem okX4_status : xokV mX4_status 1 := ⟨⟨in_X4, co_X4_status, by decide, ⟨by decide, by decide, by decide +kernel⟩, rfl, rfl⟩, im_X4_status, se_X4_status⟩
theorem okX5_thing : xokV mX5_thing 3 := ⟨⟨in_X5, co_X5_thing, by decide, ⟨by decide, by decide, by decide +kernel⟩, rfl, rfl⟩, im_X5_thing, se_X5_thing⟩
theorem okX5_isStreet : xokS mX5_isStreet 1 := ⟨⟨in_X5, co_X5_isStreet, by decide, ⟨by decide, by decide, by decide +kernel⟩, rfl, rfl⟩, sm_X5_isStreet⟩
theorem okX5_in1 : xokS mX5_in1 3 := ⟨⟨in_X5, co_X5_in1, by decide, ⟨by decide, by decide, by decide +kernel⟩, rfl, rfl⟩, sm_X5_in1⟩
theorem okX5_isStretch : xokS mX5_isStretch 1 := ⟨⟨in_X5, co_X5_isStretch, by decide, ⟨by decide, by decide, by decide +kernel⟩, rfl, rfl⟩, sm_X5_isStretch⟩
theorem okX5_no : xokV mX5_no 1 := ⟨⟨in_X5, co_X5_no, by decide, ⟨by decide, by decide, by decide +kernel⟩, rfl, rfl⟩, im_X5_no, se_X5_no⟩
theorem okX5_lies : xokV mX5_lies 3 := ⟨⟨in_X5, co_X5_lies, by decide, ⟨by decide, by decide, by decide +kernel⟩, rfl, rfl⟩, im_X5_lies, se_X5_lies⟩
theorem okX5_stretch : xokV mX5_stretch 3 := ⟨⟨in_X5, co_X5_stretch, by decide, ⟨by decide, by decide, by decide +kernel⟩, rfl, rfl⟩, im_X5_stretch, se_X5_stretch⟩
theorem okX5_high : xokV mX5_high 1 := ⟨⟨in_X5, co_X5_high, by decide, ⟨by decide, by decide, by decide +kernel⟩, rfl, rfl⟩, im_X5_high, se_X5_high⟩
theorem okX5_street : xokV mX5_street 2 := ⟨⟨in_X5, co_X5_street, by decide, ⟨by decide, by decide, by decide +kernel⟩, rfl, rfl⟩, im_X5_street, se_X5_street⟩
theorem okX5_get : xokV mX5_get 2 := ⟨⟨in_X5, co_X5_get, by decide, ⟨by decide, by decide, by decide +kernel⟩, rfl, rfl⟩, im_X5_get, se_X5_get⟩
theorem okX5_shookBy : xokV mX5_shookBy 2 := ⟨⟨in_X5, co_X5_shookBy, by decide, ⟨by decide, by decide, by decide +kernel⟩, rfl, rfl⟩, im_X5_shookBy, se_X5_shookBy⟩
theorem okX5_goesThrough : xokV mX5_goesThrough 3 := ⟨⟨in_X5, co_X5_goesThrough, by decide, ⟨by decide, by decide, by decide +kernel⟩, rfl, rfl⟩, im_X5_goesThrough, se_X5_goesThrough⟩
theorem okX5_hurriesOf : xokS mX5_hurriesOf 1 := ⟨⟨in_X5, co_X5_hurriesOf, by decide, ⟨by decide, by decide, by decide +kernel⟩, rfl, rfl⟩, sm_X5_hurriesOf⟩
theorem okX5_less : xokS mX5_less 2 := ⟨⟨in_X5, co_X5_less, by decide, ⟨by decide, by decide, by decide +kernel⟩, rfl, rfl⟩, sm_X5_less⟩
theorem okX5_slowsTo : xokS mX5_slowsTo 5 := ⟨⟨in_X5, co_X5_slowsTo, by decide, ⟨by decide, by decide, by decide +kernel⟩, rfl, rfl⟩, sm_X5_slowsTo⟩
theorem okX5_plainSlow : xokS mX5_plainSlow 5 := ⟨⟨in_X5, co_X5_plainSlow, by decide, ⟨by decide, by decide, by decide +kernel⟩, rfl, rfl⟩, sm_X5_plainSlow⟩
theorem okX5_atBump : xokS mX5_atBump 3 := ⟨⟨in_X5, co_X5_atBump, by decide, ⟨by decide, by decide, by decide +kernel⟩, rfl, rfl⟩, sm_X5_atBump⟩
theorem okX5_isBus : xokS mX5_isBus 1 := ⟨⟨in_X5, co_X5_isBus, by decide, ⟨by decide, by decide, by decide +kernel⟩, rfl, rfl⟩, sm_X5_isBus⟩
theorem okX5_isLocal : xokS mX5_isLocal 1 := ⟨⟨in_X5, co_X5_isLocal, by decide, ⟨by decide, by decide, by decide +kernel⟩, rfl, rfl⟩, sm_X5_isLocal⟩
theorem okX5_shakesAt : xokS mX5_shakesAt 3 := ⟨⟨in_X5, co_X5_shakesAt, by decide, ⟨by decide, by decide, by decide +kernel⟩, rfl, rfl⟩, sm_X5_shakesAt⟩
theorem okX5_thingsIn : xokV mX5_thingsIn 1 := ⟨⟨in_X5, co_X5_thingsIn, by decide, ⟨by decide, by decide, by decide +kernel⟩, rfl, rfl⟩, im_X5_thingsIn, se_X5_thingsIn⟩
theorem okX5_bumpsIn : xokV mX5_bumpsIn 1 := ⟨⟨in_X5, co_X5_bumpsIn, by decide, ⟨by decide, by decide, by decide +kernel⟩, rfl, rfl⟩, im_X5_bumpsIn, se_X5_bumpsIn⟩
theorem okX5_now : xokV mX5_now 1 := ⟨⟨in_X5, co_X5_now, by decide, ⟨by decide, by decide, by decide +kernel⟩, rfl, rfl⟩, im_X5_now, se_X5_now⟩
theorem okX5_allShook : xokV mX5_allShook 0 := ⟨⟨in_X5, co_X5_allShook, by decide, ⟨by decide, by decide, by decide +kernel⟩, rfl, rfl⟩, im_X5_allShook, se_X5_allShook⟩
theorem okX5_allTook : xokV mX5_allTook 0 := ⟨⟨in_X5, co_X5_allTook, by decide, ⟨by decide, by decide, by decide +kernel⟩, rfl, rfl⟩, im_X5_allTook, se_X5_allTook⟩
theorem okX5_tookBy : xokV mX5_tookBy 2 := ⟨⟨in_X5, co_X5_tookBy, by decide, ⟨by decide, by decide, by decide +kernel⟩, rfl, rfl⟩, im_X5_tookBy, se_X5_tookBy⟩
theorem okX5_driver : xokV mX5_driver 1 := ⟨⟨in_X5, co_X5_driver, by decide, ⟨by decide, by decide, by decide +kernel⟩, rfl, rfl⟩, im_X5_driver, se_X5_driver⟩
theorem okX5_addsDriver : xokV mX5_addsDriver 1 := ⟨⟨in_X5, co_X5_addsDriver, by decide, ⟨by decide, by decide, by decide +kernel⟩, rfl, rfl⟩, im_X5_addsDriver, se_X5_addsDriver⟩
theorem okX5_puts : xokV mX5_puts 3 := ⟨⟨in_X5, co_X5_puts, by decide, ⟨by decide, by decide, by decide +kernel⟩, rfl, rfl⟩, im_X5_puts, se_X5_puts⟩
theorem okX5_of : xokV mX5_of 2 := ⟨⟨in_X5, co_X5_of, by decide, ⟨by decide, by decide, by decide +kernel⟩, rfl, rfl⟩, im_X5_of, se_X5_of⟩
theorem okX5_isDriver : xokV mX5_isDriver 1 := ⟨⟨in_X5, co_X5_isDriver, by decide, ⟨by decide, by decide, by decide +kernel⟩, rfl, rfl⟩, im_X5_isDriver, se_X5_isDriver⟩
theorem okX5_set : xokV mX5_set 3 := ⟨⟨in_X5, co_X5_set, by decide, ⟨by decide, by decide, by decide +kernel⟩, rfl, rfl⟩, im_X5_set, se_X5_set⟩
theorem okX5_isWish : xokS mX5_isWish 1 := ⟨⟨in_X5, co_X5_isWish, by decide, ⟨by decide, by decide, by decide +kernel⟩, rfl, rfl⟩, sm_X5_isWish⟩
theorem okX5_turn : xokV mX5_turn 2 := ⟨⟨in_X5, co_X5_turn, by decide, ⟨by decide, by decide, by decide +kernel⟩, rfl, rfl⟩, im_X5_turn, se_X5_turn⟩
theorem okX5_as : xokV mX5_as 2 := ⟨⟨in_X5, co_X5_as, by decide, ⟨by decide, by decide, by decide +kernel⟩, rfl, rfl⟩, im_X5_as, se_X5_as⟩
theorem okX5_slows : xokV mX5_slows 3 := ⟨⟨in_X5, co_X5_slows, by decide, ⟨by decide, by decide, by decide +kernel⟩, rfl, rfl⟩, im_X5_slows, se_X5_slows⟩
theorem okX5_quick : xokV mX5_quick 3 := ⟨⟨in_X5, co_X5_quick, by decide, ⟨by decide, by decide, by decide +kernel⟩, rfl, rfl⟩, im_X5_quick, se_X5_quick⟩
theorem okX5_areBoth : xokV mX5_areBoth 2 := ⟨⟨in_X5, co_X5_areBoth, by decide, ⟨by decide, by decide, by decide +kernel⟩, rfl, rfl⟩, im_X5_areBoth, se_X5_areBoth⟩
theorem okX5_takes : xokV mX5_takes 2 := ⟨⟨in_X5, co_X5_takes, by decide, ⟨by decide, by decide, by decide +kernel⟩, rfl, rfl⟩, im_X5_takes, se_X5_takes⟩
theorem okX5_shaken : xokV mX5_shaken 2 := ⟨⟨in_X5, co_X5_shaken, by decide, ⟨by decide, by decide, by decide +kernel⟩, rfl, rfl⟩, im_X5_shaken, se_X5_shaken⟩
theorem okX5_days : xokV mX5_days 1 := ⟨⟨in_X5, co_X5_days, by decide, ⟨by decide, by decide, by decide +kernel⟩, rfl, rfl⟩, im_X5_days, se_X5_days⟩
theorem okX5_goes : xokV mX5_goes 1 := ⟨⟨in_X5, co_X5_goes, by decide, ⟨by decide, by decide, by decide +kernel⟩, rfl, rfl⟩, im_X5_goes, se_X5_goes⟩
theorem okX5_chooses : xokV mX5_chooses 1 := ⟨⟨in_X5, co_X5_chooses, by decide, ⟨by decide, by decide, by decide +kernel⟩, rfl, rfl⟩, im_X5_chooses, se_X5_chooses⟩
theorem okX5_on : xokV mX5_on 2 := ⟨⟨in_X5, co_X5_on, by decide, ⟨by decide, by decide, by decide +kernel⟩, rfl, rfl⟩, im_X5_on, se_X5_on⟩
theorem okX5_setsAside : xokV mX5_setsAside 0 := ⟨⟨in_X5, co_X5_setsAside, by decide, ⟨by decide, by decide, by decide +kernel⟩, rfl, rfl⟩, im_X5_setsAside, se_X5_setsAside⟩
theorem okX5_laysBack : xokV mX5_laysBack 0 := ⟨⟨in_X5, co_X5_laysBack, by decide, ⟨by decide, by decide, by decide +kernel⟩, rfl, rfl⟩, im_X5_laysBack, se_X5_laysBack⟩
theorem okX5_then : xokV mX5_then 2 := ⟨⟨in_X5, co_X5_then, by decide, ⟨by decide, by decide, by decide +kernel⟩, rfl, rfl⟩, im_X5_then, se_X5_then⟩
theorem okX5_onBy : xokV mX5_onBy 2 := ⟨⟨in_X5, co_X5_onBy, by decide, ⟨by decide, by decide, by decide +kernel⟩, rfl, rfl⟩, im_X5_onBy, se_X5_onBy⟩
theorem okX5_leaves : xokV mX5_leaves 1 := ⟨⟨in_X5, co_X5_leaves, by decide, ⟨by decide, by decide, by decide +kernel⟩, rfl, rfl⟩, im_X5_leaves, se_X5_leaves⟩
theorem okX5_tame : xokV mX5_tame 2 := ⟨⟨in_X5, co_X5_tame, by decide, ⟨by decide, by decide, by decide +kernel⟩, rfl, rfl⟩, im_X5_tame, se_X5_tame⟩
theorem okX5_quickest : xokV mX5_quickest 0 := ⟨⟨in_X5, co_X5_quickest, by decide, ⟨by decide, by decide, by decide +kernel⟩, rfl, rfl⟩, im_X5_quickest, se_X5_quickest⟩
theorem okX5_clear : xokV mX5_clear 2 := ⟨⟨in_X5, co_X5_clear, by decide, ⟨by decide, by decide, by decide +kernel⟩, rfl, rfl⟩, im_X5_clear, se_X5_clear⟩
theorem okX5_lower : xokV mX5_lower 2 := ⟨⟨in_X5, co_X5_lower, by decide, ⟨by decide, by decide, by decide +kernel⟩, rfl, rfl⟩, im_X5_lower, se_X5_lower⟩
theorem okX5_kind : xokV mX5_kind 2 := ⟨⟨in_X5, co_X5_kind, by decide, ⟨by decide, by decide, by decide +kernel⟩, rfl, rfl⟩, im_X5_kind, se_X5_kind⟩
theorem okX5_wish : xokV mX5_wish 3 := ⟨⟨in_X5, co_X5_wish, by decide, ⟨by decide, by decide, by decide +kernel⟩, rfl, rfl⟩, im_X5_wish, se_X5_wish⟩
theorem okX5_drives : xokV mX5_drives 1 := ⟨⟨in_X5, co_X5_drives, by decide, ⟨by decide, by decide, by decide +kernel⟩, rfl, rfl⟩, im_X5_drives, se_X5_drives⟩
theorem okX5_slowest : xokV mX5_slowest 0 := ⟨⟨in_X5, co_X5_slowest, by decide, ⟨by decide, by decide, by decide +kernel⟩, rfl, rfl⟩, im_X5_slowest, se_X5_slowest⟩
theorem okX5_feed : xokV mX5_feed 2 := ⟨⟨in_X5, co_X5_feed, by decide, ⟨by decide, by decide, by decide +kernel⟩, rfl, rfl⟩, im_X5_feed, se_X5_feed⟩
theorem okX5_wipe : xokV mX5_wipe 0 := ⟨⟨in_X5, co_X5_wipe, by decide, ⟨by decide, by decide, by decide +kernel⟩, rfl, rfl⟩, im_X5_wipe, se_X5_wipe⟩
theorem okX5_town : xokV mX5_town 0 := ⟨⟨in_X5, co_X5_town, by decide, ⟨by decide, by decide, by decide +kernel⟩, rfl, rfl⟩, im_X5_town, se_X5_town⟩
theorem okX5_nextToken : xokV mX5_nextToken 0 := ⟨⟨in_X5, co_X5_nextToken, by decide, ⟨by decide, by decide, by decide +kernel⟩, rfl, rfl⟩, im_X5_nextToken, se_X5_nextToken⟩
theorem okX5_isLetter : xokS mX5_isLetter 1 := ⟨⟨in_X5, co_X5_isLetter, by decide, ⟨by decide, by decide, by decide +kernel⟩, rfl, rfl⟩, sm_X5_isLetter⟩
theorem okX5_isDigit : xokS mX5_isDigit 1 := ⟨⟨in_X5, co_X5_isDigit, by decide, ⟨by decide, by decide, by decide +kernel⟩, rfl, rfl⟩, sm_X5_isDigit⟩
theorem okX5_readsItem : xokV mX5_readsItem 0 := ⟨⟨in_X5, co_X5_readsItem, by decide, ⟨by decide, by decide, by decide +kernel⟩, rfl, rfl⟩, im_X5_readsItem, se_X5_readsItem⟩
theorem okX5_wordOf : xokV mX5_wordOf 1 := ⟨⟨in_X5, co_X5_wordOf, by decide, ⟨by decide, by decide, by decide +kernel⟩, rfl, rfl⟩, im_X5_wordOf, se_X5_wordOf⟩
theorem okX5_readsDriver : xokV mX5_readsDriver 1 := ⟨⟨in_X5, co_X5_readsDriver, by decide, ⟨by decide, by decide, by decide +kernel⟩, rfl, rfl⟩, im_X5_readsDriver, se_X5_readsDriver⟩
theorem okX5_takesNumber : xokV mX5_takesNumber 2 := ⟨⟨in_X5, co_X5_takesNumber, by decide, ⟨by decide, by decide, by decide +kernel⟩, rfl, rfl⟩, im_X5_takesNumber, se_X5_takesNumber⟩
theorem okX5_readsThing : xokV mX5_readsThing 1 := ⟨⟨in_X5, co_X5_readsThing, by decide, ⟨by decide, by decide, by decide +kernel⟩, rfl, rfl⟩, im_X5_readsThing, se_X5_readsThing⟩
theorem okX5_sheet : xokV mX5_sheet 3 := ⟨⟨in_X5, co_X5_sheet, by decide, ⟨by decide, by decide, by decide +kernel⟩, rfl, rfl⟩, im_X5_sheet, se_X5_sheet⟩
theorem okX5_isSheet : xokS mX5_isSheet 1 := ⟨⟨in_X5, co_X5_isSheet, by decide, ⟨by decide, by decide, by decide +kernel⟩, rfl, rfl⟩, sm_X5_isSheet⟩
theorem okX5_write : xokV mX5_write 3 := ⟨⟨in_X5, co_X5_write, by decide, ⟨by decide, by decide, by decide +kernel⟩, rfl, rfl⟩, im_X5_write, se_X5_write⟩
theorem okX5_wrongSheet : xokV mX5_wrongSheet 1 := ⟨⟨in_X5, co_X5_wrongSheet, by decide, ⟨by decide, by decide, by decide +kernel⟩, rfl, rfl⟩, im_X5_wrongSheet, se_X5_wrongSheet⟩
theorem okX5_told : xokV mX5_told 2 := ⟨⟨in_X5, co_X5_told, by decide, ⟨by decide, by decide, by decide +kernel⟩, rfl, rfl⟩, im_X5_told, se_X5_told⟩
theorem okX5_tells : xokV mX5_tells 3 := ⟨⟨in_X5, co_X5_tells, by decide, ⟨by decide, by decide, by decide +kernel⟩, rfl, rfl⟩, im_X5_tells, se_X5_tells⟩
theorem okX5_copy : xokV mX5_copy 5 := ⟨⟨in_X5, co_X5_copy, by decide, ⟨by decide, by decide, by decide +kernel⟩, rfl, rfl⟩, im_X5_copy, se_X5_copy⟩
theorem okX5_lays : xokV mX5_lays 2 := ⟨⟨in_X5, co_X5_lays, by decide, ⟨by decide, by decide, by decide +kernel⟩, rfl, rfl⟩, im_X5_lays, se_X5_lays⟩
theorem okX5_wrongWith : xokV mX5_wrongWith 2 := ⟨⟨in_X5, co_X5_wrongWith, by decide, ⟨by decide, by decide, by decide +kernel⟩, rfl, rfl⟩, im_X5_wrongWith, se_X5_wrongWith⟩
theorem okX5_book : xokV mX5_book 3 := ⟨⟨in_X5, co_X5_book, by decide, ⟨by decide, by decide, by decide +kernel⟩, rfl, rfl⟩, im_X5_book, se_X5_book⟩
theorem okX5_read : xokV mX5_read 3 := ⟨⟨in_X5, co_X5_read, by decide, ⟨by decide, by decide, by decide +kernel⟩, rfl, rfl⟩, im_X5_read, se_X5_read⟩
theorem okX5_isSo : xokV mX5_isSo 1 := ⟨⟨in_X5, co_X5_isSo, by decide, ⟨by decide, by decide, by decide +kernel⟩, rfl, rfl⟩, im_X5_isSo, se_X5_isSo⟩
theorem okX5_image : xokV mX5_image 0 := ⟨⟨in_X5, co_X5_image, by decide, ⟨by decide, by decide, by decide +kernel⟩, rfl, rfl⟩, im_X5_image, se_X5_image⟩
theorem okX5_undo : xokV mX5_undo 0 := ⟨⟨in_X5, co_X5_undo, by decide, ⟨by decide, by decide, by decide +kernel⟩, rfl, rfl⟩, im_X5_undo, se_X5_undo⟩
theorem okX5_tear : xokV mX5_tear 0 := ⟨⟨in_X5, co_X5_tear, by decide, ⟨by decide, by decide, by decide +kernel⟩, rfl, rfl⟩, im_X5_tear, se_X5_tear⟩
theorem okX5_count : xokV mX5_count 1 := ⟨⟨in_X5, co_X5_count, by decide, ⟨by decide, by decide, by decide +kernel⟩, rfl, rfl⟩, im_X5_count, se_X5_count⟩
theorem okX5_status : xokV mX5_status 1 := ⟨⟨in_X5, co_X5_status, by decide, ⟨by decide, by decide, by decide +kernel⟩, rfl, rfl⟩, im_X5_status, se_X5_status⟩
