section
variable {l : Launch} {ad : Nat → Nat} {D : va_G} {cy : Nat → ClassId}
theorem pTh_ok {b : Nat → Int32} {L s : Nat} {T : Tw} (h : tOk T) {v : Nat} (hv : v ≤ 4) : tOk (pTh b L s T (nI v)).2.2 := by
  unfold pTh
  split
  · split
    · exact lay_ok h _ hv
    · exact h
  · exact h
theorem pDi_ok {b : Nat → Int32} {L s d : Nat} {T : Tw} (h : tOk T) : tOk (pDi b L s d T).2.2 := by
  unfold pDi
  split
  · split
    · rename_i hn
      exact setGo_ok h _ (show vS b L (nx b L s) < 3 by have := hn.2.2; omega)
    · exact h
  · exact h
theorem pDw_ok {b : Nat → Int32} {L s d : Nat} {T : Tw} (h : tOk T) : tOk (pDw b L s d T).2.2 := by
  unfold pDw
  split
  · split
    · rename_i hn
      exact pDi_ok (setWs_ok h _ hn.2.1 hn.2.2)
    · exact h
  · exact pDi_ok h
theorem pDr_ok {b : Nat → Int32} {L s : Nat} {T : Tw} (h : tOk T) {k : Nat} (hk : k < 6) : tOk (pDr b L s T (nI k)).2.2 := by
  unfold pDr
  split
  · rename_i hn
    exact pDw_ok (add_ok h hn hk)
  · exact h
theorem kN_of {b : Nat → Int32} {L s : Nat} (h : ¬ kN b L s < 0) : ∃ k, k < 6 ∧ kN b L s = nI k := by
  unfold kN at h ⊢
  repeat' split
  all_goals first
    | exact ⟨0, by omega, rfl⟩ | exact ⟨1, by omega, rfl⟩ | exact ⟨2, by omega, rfl⟩ | exact ⟨3, by omega, rfl⟩ | exact ⟨4, by omega, rfl⟩ | exact ⟨5, by omega, rfl⟩
    | (exfalso; simp_all (decide := true))
theorem tNm_of {b : Nat → Int32} {L s : Nat} (h : ¬ tNm b L s < 0) : ∃ k, k ≤ 4 ∧ tNm b L s = nI k := by
  unfold tNm at h ⊢
  repeat' split
  all_goals first
    | exact ⟨0, by omega, rfl⟩ | exact ⟨1, by omega, rfl⟩ | exact ⟨2, by omega, rfl⟩ | exact ⟨3, by omega, rfl⟩ | exact ⟨4, by omega, rfl⟩
    | (exfalso; simp_all (decide := true))
theorem pIt_ok {b : Nat → Int32} {L s : Nat} {T : Tw} (h : tOk T) : tOk (pIt b L s T).2.2 := by
  unfold pIt
  split
  · split
    · split
      · split
        · split
          · rename_i hn
            exact setIn_ok h hn.2.1 hn.2.2
          · exact h
        · exact h
      · rename_i ht
        obtain ⟨k, hk, e⟩ := tNm_of ht
        rw [e]
        exact pTh_ok h hk
    · rename_i ht
      obtain ⟨k, hk, e⟩ := kN_of ht
      rw [e]
      exact pDr_ok h hk
  · exact h
theorem pAll_ok {b : Nat → Int32} {L : Nat} : ∀ (f s : Nat) (T : Tw) (m : Nat), tOk T → tOk (pAll b L f s T m).2 := by
  intro f
  induction f with
  | zero => intro s T m h; exact h
  | succ f ih =>
    intro s T m h
    have h1 := pIt_ok (b := b) (L := L) (s := s) h
    rw [pAll]
    split
    · split
      · exact h1
      · split
        · exact ih _ _ _ h1
        · exact h1
    · exact h1
theorem k_town {S : St} (h : sOk S) : sOk (oTown S).2 := by
  unfold oTown
  split
  · exact h
  · exact ⟨pAll_ok _ _ _ _ h.1, h.2⟩
end
