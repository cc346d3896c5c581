section
variable {l : Launch} {ad : Nat → Nat} {D : va_G} {cy : Nat → ClassId}
/-! THE WHOLE STATE as a value: the present town, the kept one, the tape (how many bytes, the bytes), the sheets (bits, sizes, numbers), how often each finding was told -/
abbrev St : Type := Tw × Option Tw × Nat × (Nat → Int32) × (Nat → Int32) × (Nat → Nat) × (Nat → Nat → Int64) × (Nat → Int32)
abbrev gT (S : St) : Tw := S.1
abbrev gK (S : St) : Option Tw := S.2.1
abbrev gL (S : St) : Nat := S.2.2.1
abbrev gB (S : St) : Nat → Int32 := S.2.2.2.1
abbrev gW (S : St) : Nat → Int32 := S.2.2.2.2.1
abbrev gZ (S : St) : Nat → Nat := S.2.2.2.2.2.1
abbrev gN (S : St) : Nat → Nat → Int64 := S.2.2.2.2.2.2.1
abbrev gF (S : St) : Nat → Int32 := S.2.2.2.2.2.2.2
def pT (S : St) (T : Tw) : St := (T, S.2)
def pK (S : St) (k : Option Tw) : St := (S.1, k, S.2.2)
def pTape (S : St) (n : Nat) (b : Nat → Int32) : St := (S.1, S.2.1, n, b, S.2.2.2.2)
def pSh (S : St) (j : Nat) (b : Int32) (m : Nat) (f : Nat → Int64) : St := (S.1, S.2.1, S.2.2.1, S.2.2.2.1, upd (gW S) j b, updn (gZ S) j m, (fun q => if q = j then f else gN S q), gF S)
def pFd (S : St) (k : Nat) : St := (S.1, S.2.1, S.2.2.1, S.2.2.2.1, S.2.2.2.2.1, S.2.2.2.2.2.1, S.2.2.2.2.2.2.1, upd (gF S) k (gF S k + nI 1))
def fnd (k : Nat) : Int32 := -1000000001 - nI k
def tellS (S : St) (k : Nat) : Int32 × St := (fnd k, pFd S k)
/-- what an argument must be -/
abbrev vN (n : Nat) (a : Int32) : Prop := ¬ a < 0 ∧ ¬ nI n ≤ a
abbrev vR (lo hi a : Int32) : Prop := ¬ a < lo ∧ ¬ hi < a
abbrev cn (a : Int32) : Nat := a.toNatClampNeg
theorem vN_of {n : Nat} {a : Int32} (h : vN n a) (hn : n < 2 ^ 31) : ∃ j, j < n ∧ a = nI j := by
  obtain ⟨j, hj, rfl⟩ := nI_of h.1
  exact ⟨j, Nat.not_le.mp fun z => h.2 ((nI_leI hn hj).mpr z), rfl⟩
theorem vR_of {lo hi : Nat} {a : Int32} (h : vR (nI lo) (nI hi) a) (hh : hi < 2 ^ 31) (hl : lo < 2 ^ 31) : ∃ j, lo ≤ j ∧ j ≤ hi ∧ a = nI j := by
  have h0 : ¬ a < 0 := fun z => h.1 (by
    rw [Int32.lt_iff_toInt_lt] at z ⊢
    rw [nI_toInt hl]
    have : (0 : Int32).toInt = 0 := by decide
    omega)
  obtain ⟨j, hj, rfl⟩ := nI_of h0
  exact ⟨j, Nat.not_lt.mp fun z => h.1 ((nI_ltI hj hl).mpr z), Nat.not_lt.mp fun z => h.2 ((nI_ltI hh hj).mpr z), rfl⟩
theorem vN_nI {n j : Nat} (h : j < n) (hn : n < 2 ^ 31) : vN n (nI j) := ⟨nI_pos (by omega), fun z => by have := (nI_leI hn (by omega)).mp z; omega⟩
theorem vR_nI {lo hi j : Nat} (h1 : lo ≤ j) (h2 : j ≤ hi) (hh : hi < 2 ^ 31) : vR (nI lo) (nI hi) (nI j) := ⟨fun z => by have := (nI_ltI (by omega) (by omega)).mp z; omega, fun z => by have := (nI_ltI (by omega) (by omega)).mp z; omega⟩
/-! changes of a town -/
def setIn (T : Tw) (v : Int32) : Tw := (tDay T, v, tN T, tTh T, tAg T, tKd T, tWs T, tGo T)
def setKd (T : Tw) (d : Nat) (v : Int32) : Tw := (tDay T, tIn T, tN T, tTh T, tAg T, upd (tKd T) d v, tWs T, tGo T)
def setWs (T : Tw) (d : Nat) (v : Int32) : Tw := (tDay T, tIn T, tN T, tTh T, tAg T, tKd T, upd (tWs T) d v, tGo T)
def setGo (T : Tw) (d r : Nat) : Tw := (tDay T, tIn T, tN T, tTh T, tAg T, tKd T, tWs T, updn (tGo T) d r)
/-- a kind is another, or is under it -/
def fOfN (x o : Nat) : Bool := x == o || (decide (1 ≤ x ∧ x ≤ 5) && o == 0) || (x == 4 && o == 1) || (x == 5 && o == 3)
/-! WHAT EACH CALL ANSWERS AND DOES -/
def oThing (S : St) (a b v : Int32) : Int32 × St := if (vN 3 a ∧ vN 20 b) ∧ vR (nI 0) (nI 4) v then (tTh (gT S) (cn a * 20 + cn b), pT S (layT (gT S) (cn a * 20 + cn b) v)) else tellS S 0
def oStretch (S : St) (a b c : Int32) : Int32 × St := if (vN 3 a ∧ vN 20 b) ∧ vR (nI 0) (nI 1) c then ((if c = 0 then tTh (gT S) (cn a * 20 + cn b) else tAg (gT S) (cn a * 20 + cn b)), S) else tellS S 0
def oHigh (S : St) (v : Int32) : Int32 × St := if vR (nI 1) (nI 6) v then (tIn (gT S), pT S (setIn (gT S) v)) else tellS S 0
def oStreet (S : St) (a c : Int32) : Int32 × St := if vN 3 a then (if c = nI 0 then (pSet (gT S) (cn a), S) else if c = nI 1 then (pBump (gT S) (cn a), S) else if c = nI 2 then (sWho (tGo (gT S)) (cn a) (tN (gT S)), S) else if c = nI 3 then (pShIn (gT S) (cn a), S) else tellS S 0) else tellS S 0
def oNow (S : St) (c : Int32) : Int32 × St := if c = nI 0 then (tDay (gT S), S) else if c = nI 1 then (tIn (gT S), S) else if c = nI 2 then (pShAll (gT S), S) else if c = nI 3 then (pTmAll (gT S), S) else tellS S 0
def oDriver (S : St) (k : Int32) : Int32 × St := if vN 6 k then (if tN (gT S) < 8 then (nI (tN (gT S)), pT S (addT (gT S) k)) else tellS S 1) else tellS S 0
def oOf (S : St) (d c : Int32) : Int32 × St := if vN (tN (gT S)) d then (if c = nI 0 then (tKd (gT S) (cn d), S) else if c = nI 1 then (tWs (gT S) (cn d), S) else if c = nI 2 then (nI (tGo (gT S) (cn d)), S) else if c = nI 3 then (fHur (tKd (gT S) (cn d)), S) else if c = nI 4 then (pTime (gT S) (tKd (gT S) (cn d)) (tWs (gT S) (cn d)) (tGo (gT S) (cn d)), S) else if c = nI 5 then (pShake (gT S) (tKd (gT S) (cn d)) (tWs (gT S) (cn d)) (tGo (gT S) (cn d)), S) else tellS S 0) else tellS S 0
def oSet (S : St) (d c v : Int32) : Int32 × St := if vN (tN (gT S)) d then (if c = nI 1 ∧ vR (nI 10) (nI 80) v then (tWs (gT S) (cn d), pT S (setWs (gT S) (cn d) v)) else if c = nI 2 ∧ vN 3 v then (nI (tGo (gT S) (cn d)), pT S (setGo (gT S) (cn d) (cn v))) else tellS S 0) else tellS S 0
def oTurn (S : St) (d k : Int32) : Int32 × St := if vN (tN (gT S)) d ∧ vN 6 k then (tKd (gT S) (cn d), pT S (setKd (gT S) (cn d) k)) else tellS S 0
def oAs (S : St) (d k : Int32) : Int32 × St := if vN (tN (gT S)) d ∧ vN 6 k then (if fOfN (cn (tKd (gT S) (cn d))) (cn k) = true then (tWs (gT S) (cn d), S) else tellS S 2) else tellS S 0
def oSlows (S : St) (d t g : Int32) : Int32 × St := if vN (tN (gT S)) d ∧ vR (nI 1) (nI 4) t ∧ vR (nI 0) (nI 999) g then (fSlow (tKd (gT S) (cn d)) (tWs (gT S) (cn d)) t (tIn (gT S)) g, S) else tellS S 0
def oQuick (S : St) (d a b : Int32) : Int32 × St := if vN (tN (gT S)) d ∧ vN 3 a ∧ vN 20 b then (pP (gT S) (tKd (gT S) (cn d)) (tWs (gT S) (cn d)) (cn a) (cn b + 1), S) else tellS S 0
def oTakes (S : St) (d a : Int32) : Int32 × St := if vN (tN (gT S)) d ∧ vN 3 a then (pTime (gT S) (tKd (gT S) (cn d)) (tWs (gT S) (cn d)) (cn a), S) else tellS S 0
def oShaken (S : St) (d a : Int32) : Int32 × St := if vN (tN (gT S)) d ∧ vN 3 a then (pShake (gT S) (tKd (gT S) (cn d)) (tWs (gT S) (cn d)) (cn a), S) else tellS S 0
def oDays (S : St) (m : Int32) : Int32 × St := if vR (nI 1) (nI 100) m then (if tDay (gT S) + m ≤ nI 9999 then (pShAll (daysC (gT S) (cn m)), pT S (daysC (gT S) (cn m))) else tellS S 4) else tellS S 0
def oOn (S : St) (d m : Int32) : Int32 × St := if vN (tN (gT S)) d ∧ vR (nI 0) (nI 100) m then (nI (tGo (daysC (gT S) (cn m)) (cn d)), S) else tellS S 0
def oThen (S : St) (m c : Int32) : Int32 × St := if vR (nI 0) (nI 100) m ∧ vR (nI 0) (nI 1) c then ((if c = 0 then pShAll (daysC (gT S) (cn m)) else pTmAll (daysC (gT S) (cn m))), S) else tellS S 0
def oWipe (S : St) : Int32 × St := (nI (gL S), pTape S 0 (gB S))
def oImage (S : St) : Int32 × St := (nI 1, pK S (some (gT S)))
def oUndo (S : St) : Int32 × St := match gK S with
  | none => tellS S 3
  | some U => (nI (tN U), pT S U)
def oTear (S : St) : Int32 × St := (xb ((gK S).isSome = true), pK S none)
def oCount (S : St) (c : Int32) : Int32 × St := if c = nI 0 then (nI (tN (gT S)), S) else if c = nI 1 then (nI (gL S), S) else if c = nI 2 then (sSum (pBump (gT S)) 3, S) else if c = nI 3 then (sSum (tWs (gT S)) (tN (gT S)), S) else tellS S 0
/-! THE CLASS'S HEAP holds the state -/
def cS (σ : xH) (S : St) : Prop := tw σ 1 (gT S) ∧ σ.1 0 6 = xb ((gK S).isSome = true) ∧ (∀ U, gK S = some U → tw σ 7 U) ∧ σ.1 19 1 = nI (gL S) ∧ (∀ i, i < gL S → σ.1 20 i = gB S i) ∧ gL S ≤ 120 ∧ (∀ j, j < 4 → sh σ j (gW S j) (gZ S j) (gN S j)) ∧ ∀ i, i < 7 → σ.1 30 i = gF S i
theorem sh_keep {σ τ : xH} {j m : Nat} {b : Int32} {f : Nat → Int64} (h : sh σ j b m f) (h1 : τ.1 (22 + 2 * j) = σ.1 (22 + 2 * j)) (h2 : τ.2 (23 + 2 * j) = σ.2 (23 + 2 * j)) : sh τ j b m f := ⟨by rw [h1]; exact h.1, by rw [h1]; exact h.2.1, fun i hi => by rw [h2]; exact h.2.2.1 i hi, h.2.2.2⟩
theorem cS_13 {σ τ : xH} {S : St} (h : cS σ S) (f : fr 13 σ τ) : cS τ S := by
  obtain ⟨h1, h2, h3, h4, h5, h6, h7, h8⟩ := h
  refine ⟨tw_fr h1 f (by omega), by rw [f.2 0 (by omega)]; exact h2, fun U hU => tw_fr (h3 U hU) f (by omega), by rw [f.2 19 (by omega)]; exact h4, fun i hi => by rw [f.2 20 (by omega)]; exact h5 i hi, h6, fun j hj => sh_keep (h7 j hj) (f.2 _ (by omega)) (by rw [f.1]), fun i hi => by rw [f.2 30 (by omega)]; exact h8 i hi⟩
theorem cS_1 {σ τ : xH} {S : St} (h : cS σ S) (f : fr 1 σ τ) {T : Tw} (hw : tw τ 1 T) : cS τ (pT S T) := by
  obtain ⟨h1, h2, h3, h4, h5, h6, h7, h8⟩ := h
  refine ⟨hw, by rw [f.2 0 (by omega)]; exact h2, fun U hU => tw_fr (h3 U hU) f (by omega), by rw [f.2 19 (by omega)]; exact h4, fun i hi => by rw [f.2 20 (by omega)]; exact h5 i hi, h6, fun j hj => sh_keep (h7 j hj) (f.2 _ (by omega)) (by rw [f.1]), fun i hi => by rw [f.2 30 (by omega)]; exact h8 i hi⟩
theorem cS_tell {σ : xH} {S : St} (h : cS σ S) {k : Nat} (hk : k < 7) : cS (xpi σ 30 k (gF S k + nI 1)) (tellS S k).2 := by
  obtain ⟨h1, h2, h3, h4, h5, h6, h7, h8⟩ := h
  have fr' : ∀ q, q ≠ 30 → (xpi σ 30 k (gF S k + nI 1)).1 q = σ.1 q := fun q hq => xui_o _ _ hq
  have t : ∀ {u : Nat} {T : Tw}, u + 5 < 30 → tw σ u T → tw (xpi σ 30 k (gF S k + nI 1)) u T := by
    intro u T hu h
    obtain ⟨g1, g2, g3, g4, g5, g6, g7, g8, g9, g10⟩ := h
    exact ⟨by rw [fr' u (by omega)]; exact g1, by rw [fr' u (by omega)]; exact g2, by rw [fr' u (by omega)]; exact g3, fun i hi => by rw [fr' (u + 1) (by omega)]; exact g4 i hi, fun i hi => by rw [fr' (u + 2) (by omega)]; exact g5 i hi, fun i hi => by rw [fr' (u + 3) (by omega)]; exact g6 i hi, fun i hi => by rw [fr' (u + 4) (by omega)]; exact g7 i hi, fun i hi => by rw [fr' (u + 5) (by omega)]; exact g8 i hi, g9, g10⟩
  refine ⟨t (by omega) h1, by rw [fr' 0 (by omega)]; exact h2, fun U hU => t (by omega) (h3 U hU), by rw [fr' 19 (by omega)]; exact h4, fun i hi => by rw [fr' 20 (by omega)]; exact h5 i hi, h6, fun j hj => sh_keep (h7 j hj) (fr' _ (by omega)) rfl, fun i hi => ?_⟩
  rw [xui_s]
  show upd (σ.1 30) k (gF S k + nI 1) i = upd (gF S) k (gF S k + nI 1) i
  by_cases e : i = k
  · simp [upd, e]
  · simp [upd, e, h8 i hi]
end
