section
variable {l : Launch} {ad : Nat → Nat} {D : va_G} {cy : Nat → ClassId}
/-! WHAT HOLDS AT EVERY CALL: the present town and the kept one are as a town can be -/
def sOk (S : St) : Prop := tOk (gT S) ∧ ∀ U, gK S = some U → tOk U
theorem lc_of {y : Int64} (h : ¬ lg_cmp y 0 < 0 ∧ ¬ 0 < lg_cmp y 4) : ∃ x, x ≤ 4 ∧ y.toInt32 = nI x := by
  have h1 : ¬ y < 0 := fun z => h.1 (by
    unfold lg_cmp
    have a : ¬ y > 0 := fun q => by
      have q : (0 : Int64) < y := q
      rw [Int64.lt_iff_toInt_lt] at q z
      omega
    have b : ¬ y = 0 := fun q => by
      subst q
      rw [Int64.lt_iff_toInt_lt] at z
      omega
    rw [if_neg a, if_neg b]
    decide)
  have h2 : ¬ 4 < y := fun z => h.2 (by
    unfold lg_cmp
    rw [if_pos (show y > 4 from z)]
    decide)
  rw [Int64.lt_iff_toInt_lt] at h1 h2
  have e0 : (0 : Int64).toInt = 0 := by decide
  have e4 : (4 : Int64).toInt = 4 := by decide
  rw [e0] at h1
  rw [e4] at h2
  refine ⟨y.toInt.toNat, by omega, ?_⟩
  apply Int32.toInt_inj.mp
  rw [nI_toInt (by omega), Int64.toInt_toInt32]
  rw [Int.toNat_of_nonneg (by omega)]
  exact Int.bmod_eq_of_le (by omega) (by omega)
theorem add_ok {T : Tw} (h : tOk T) (hn : tN T < 8) {k : Nat} (hk : k < 6) : tOk (addT T (nI k)) := by
  obtain ⟨h1, h2, h3, h4, h5, h6, h7, h8⟩ := h
  refine ⟨hn, fun d hd => ?_, fun d hd => ?_, h4, h5, h6, trivial, fun d hd => ?_⟩
  · have hd : d < tN T + 1 := hd
    show ∃ x, x < 6 ∧ upd (tKd T) (tN T) (nI k) d = nI x
    unfold upd
    by_cases e : d = tN T
    · rw [if_pos e]; exact ⟨k, hk, rfl⟩
    · rw [if_neg e]; exact h2 d (by omega)
  · have hd : d < tN T + 1 := hd
    show ∃ w, 10 ≤ w ∧ w ≤ 80 ∧ upd (tWs T) (tN T) (nI 40) d = nI w
    unfold upd
    by_cases e : d = tN T
    · rw [if_pos e]; exact ⟨40, by omega, by omega, rfl⟩
    · rw [if_neg e]; exact h3 d (by omega)
  · have hd : d < tN T + 1 := hd
    show updn (tGo T) (tN T) 0 d < 3
    unfold updn
    by_cases e : d = tN T
    · rw [if_pos e]; omega
    · rw [if_neg e]; exact h8 d (by omega)
theorem setWs_ok {T : Tw} (h : tOk T) (e : Nat) {w : Nat} (h10 : 10 ≤ w) (h80 : w ≤ 80) : tOk (setWs T e (nI w)) := by
  obtain ⟨h1, h2, h3, h4, h5, h6, h7, h8⟩ := h
  refine ⟨h1, h2, fun d hd => ?_, h4, h5, h6, trivial, h8⟩
  show ∃ x, 10 ≤ x ∧ x ≤ 80 ∧ upd (tWs T) e (nI w) d = nI x
  unfold upd
  by_cases g : d = e
  · rw [if_pos g]; exact ⟨w, h10, h80, rfl⟩
  · rw [if_neg g]; exact h3 d hd
theorem setKd_ok {T : Tw} (h : tOk T) (e : Nat) {k : Nat} (hk : k < 6) : tOk (setKd T e (nI k)) := by
  obtain ⟨h1, h2, h3, h4, h5, h6, h7, h8⟩ := h
  refine ⟨h1, fun d hd => ?_, h3, h4, h5, h6, trivial, h8⟩
  show ∃ x, x < 6 ∧ upd (tKd T) e (nI k) d = nI x
  unfold upd
  by_cases g : d = e
  · rw [if_pos g]; exact ⟨k, hk, rfl⟩
  · rw [if_neg g]; exact h2 d hd
theorem setGo_ok {T : Tw} (h : tOk T) (e : Nat) {r : Nat} (hr : r < 3) : tOk (setGo T e r) := by
  obtain ⟨h1, h2, h3, h4, h5, h6, h7, h8⟩ := h
  refine ⟨h1, h2, h3, h4, h5, h6, trivial, fun d hd => ?_⟩
  show updn (tGo T) e r d < 3
  unfold updn
  by_cases g : d = e
  · rw [if_pos g]; exact hr
  · rw [if_neg g]; exact h8 d hd
theorem lyS_ok {T : Tw} (h : tOk T) (f : Nat → Int64) (r : Nat) : ∀ i, tOk (lyS T f r i).1 := by
  intro i
  induction i with
  | zero => exact h
  | succ i ih =>
    rw [lyS]
    split
    · rename_i hc
      obtain ⟨x, hx, ex⟩ := lc_of hc
      show tOk (layT _ _ _)
      rw [ex]
      exact lay_ok ih _ hx
    · exact ih
theorem k_thing {S : St} (h : sOk S) (a b v : Int32) : sOk (oThing S a b v).2 := by
  unfold oThing
  split
  · rename_i hc
    obtain ⟨x, _, hx, rfl⟩ := vR_of hc.2 (by decide) (by decide)
    exact ⟨lay_ok h.1 _ hx, h.2⟩
  · exact h
theorem k_high {S : St} (h : sOk S) (v : Int32) : sOk (oHigh S v).2 := by
  unfold oHigh
  split
  · rename_i hc
    obtain ⟨x, h1, hx, rfl⟩ := vR_of hc (by decide) (by decide)
    exact ⟨setIn_ok h.1 h1 hx, h.2⟩
  · exact h
theorem k_driver {S : St} (h : sOk S) (k : Int32) : sOk (oDriver S k).2 := by
  unfold oDriver
  split
  · rename_i hc
    obtain ⟨x, hx, rfl⟩ := vN_of hc (by decide)
    split
    · rename_i hn
      exact ⟨add_ok h.1 hn hx, h.2⟩
    · exact h
  · exact h
theorem k_set {S : St} (h : sOk S) (d c v : Int32) : sOk (oSet S d c v).2 := by
  unfold oSet
  split
  · split
    · rename_i hc
      obtain ⟨x, h1, hx, rfl⟩ := vR_of hc.2 (by decide) (by decide)
      exact ⟨setWs_ok h.1 _ h1 hx, h.2⟩
    · split
      · rename_i hc
        obtain ⟨x, hx, rfl⟩ := vN_of hc.2 (by decide)
        refine ⟨setGo_ok h.1 _ ?_, h.2⟩
        rw [cn, nI_clamp (by omega)]
        exact hx
      · exact h
  · exact h
theorem k_turn {S : St} (h : sOk S) (d k : Int32) : sOk (oTurn S d k).2 := by
  unfold oTurn
  split
  · rename_i hc
    obtain ⟨x, hx, rfl⟩ := vN_of hc.2 (by decide)
    exact ⟨setKd_ok h.1 _ hx, h.2⟩
  · exact h
theorem k_days {S : St} (h : sOk S) (m : Int32) : sOk (oDays S m).2 := by
  unfold oDays
  split
  · split
    · exact ⟨daysC_ok h.1 _, h.2⟩
    · exact h
  · exact h
theorem k_undo {S : St} (h : sOk S) : sOk (oUndo S).2 := by
  unfold oUndo
  split
  · exact h
  · rename_i U hU
    exact ⟨h.2 U hU, h.2⟩
theorem k_image {S : St} (h : sOk S) : sOk (oImage S).2 := ⟨h.1, fun U hU => by
  have e : gT S = U := Option.some.inj hU
  exact e ▸ h.1⟩
theorem k_tear {S : St} (h : sOk S) : sOk (oTear S).2 := ⟨h.1, fun U hU => by cases hU⟩
theorem k_lays {S : St} (h : sOk S) (s a : Int32) : sOk (oLays S s a).2 := by
  unfold oLays
  split
  · split
    · exact h
    · split
      · exact ⟨lyS_ok h.1 _ _ _, h.2⟩
      · exact h
  · exact h
theorem k_stretch {S : St} (h : sOk S) (a b c : Int32) : sOk (oStretch S a b c).2 := by
  unfold oStretch
  repeat' split
  all_goals exact h
theorem k_street {S : St} (h : sOk S) (a c : Int32) : sOk (oStreet S a c).2 := by
  unfold oStreet
  repeat' split
  all_goals exact h
theorem k_now {S : St} (h : sOk S) (c : Int32) : sOk (oNow S c).2 := by
  unfold oNow
  repeat' split
  all_goals exact h
theorem k_of {S : St} (h : sOk S) (d c : Int32) : sOk (oOf S d c).2 := by
  unfold oOf
  repeat' split
  all_goals exact h
theorem k_as {S : St} (h : sOk S) (d k : Int32) : sOk (oAs S d k).2 := by
  unfold oAs
  repeat' split
  all_goals exact h
theorem k_slows {S : St} (h : sOk S) (d t g : Int32) : sOk (oSlows S d t g).2 := by
  unfold oSlows
  repeat' split
  all_goals exact h
theorem k_quick {S : St} (h : sOk S) (d a b : Int32) : sOk (oQuick S d a b).2 := by
  unfold oQuick
  repeat' split
  all_goals exact h
theorem k_takes {S : St} (h : sOk S) (d a : Int32) : sOk (oTakes S d a).2 := by
  unfold oTakes
  repeat' split
  all_goals exact h
theorem k_shaken {S : St} (h : sOk S) (d a : Int32) : sOk (oShaken S d a).2 := by
  unfold oShaken
  repeat' split
  all_goals exact h
theorem k_on {S : St} (h : sOk S) (d m : Int32) : sOk (oOn S d m).2 := by
  unfold oOn
  repeat' split
  all_goals exact h
theorem k_then {S : St} (h : sOk S) (m c : Int32) : sOk (oThen S m c).2 := by
  unfold oThen
  repeat' split
  all_goals exact h
theorem k_wipe {S : St} (h : sOk S) : sOk (oWipe S).2 := h
theorem k_count {S : St} (h : sOk S) (c : Int32) : sOk (oCount S c).2 := by
  unfold oCount
  repeat' split
  all_goals exact h
theorem k_status {S : St} (h : sOk S) (w : Int32) : sOk (oStatus S w).2 := by
  unfold oStatus
  repeat' split
  all_goals exact h
theorem k_feed {S : St} (h : sOk S) (x m : Int32) : sOk (oFeed S x m).2 := by
  unfold oFeed
  repeat' split
  all_goals exact h
theorem k_sheet {S : St} (h : sOk S) (s b m : Int32) : sOk (oSheet S s b m).2 := by
  unfold oSheet
  repeat' split
  all_goals exact h
theorem k_copy {S : St} (h : sOk S) (s f t g m : Int32) : sOk (oCopy S s f t g m).2 := by
  unfold oCopy
  repeat' split
  all_goals exact h
theorem k_tame {S : St} (h : sOk S) (d a : Int32) : sOk (oTame S d a).2 := by
  unfold oTame bR
  repeat' split
  all_goals exact h
theorem k_clear {S : St} (h : sOk S) (a m : Int32) : sOk (oClear S a m).2 := by
  unfold oClear bR
  repeat' split
  all_goals exact h
theorem k_lower {S : St} (h : sOk S) (m v : Int32) : sOk (oLower S m v).2 := by
  unfold oLower oR
  repeat' split
  all_goals exact h
theorem k_leaves {S : St} (h : sOk S) (d : Int32) : sOk (oLeaves S d).2 := by
  unfold oLeaves oR
  repeat' split
  all_goals exact h
theorem k_kind {S : St} (h : sOk S) (d a : Int32) : sOk (oKind S d a).2 := by
  unfold oKind
  repeat' split
  all_goals exact h
theorem k_wish {S : St} (h : sOk S) (d a t : Int32) : sOk (oWish S d a t).2 := by
  unfold oWish
  repeat' split
  all_goals exact h
theorem k_drives {S : St} (h : sOk S) (p : Int32) : sOk (oDrives S p).2 := by
  unfold oDrives
  repeat' split
  all_goals exact h
theorem k_slowest {S : St} (h : sOk S)  : sOk (oSlowest S ).2 := by
  unfold oSlowest bR
  repeat' split
  all_goals exact h
theorem k_book {S : St} (h : sOk S) (s d a : Int32) : sOk (oBook S s d a).2 := by
  unfold oBook
  repeat' split
  all_goals exact h
theorem k_read {S : St} (h : sOk S) (s d a : Int32) : sOk (oRead S s d a).2 := by
  unfold oRead
  repeat' split
  all_goals exact h
theorem k_write {S : St} (h : sOk S) (s i : Int32) (v : Int64) : sOk (oWrite S s i v).2 := by
  unfold oWrite
  repeat' split
  all_goals exact h
end
