section
variable {l : Launch} {ad : Nat → Nat} {D : va_G} {cy : Nat → ClassId}
end
section XW
variable {l : Launch} {Ω : xW} {M : xM} {pc : Nat} {ls : List (Option Value)} {st : List Value} {σ : xH} {Q : Option Value → xH → Prop}
theorem x_caldE {q n b t j : Nat} {x : Int32} (h2 : xt2 Ω = .char) (hd : decode (xcc M) pc = .ok (.caload, 1)) (hs : (xsh Ω)[q]? = some (.inl (2, n, b, t))) (hj : j < n) (hn : n < 2 ^ 31) (hx : σ.1 q j = x) (k : Ex l Ω M (pc + 1) ls (.int x :: st) σ Q) : Ex l Ω M pc ls (.int (nI j) :: .ref q :: st) σ Q := x_caldN h2 hd hs hj hn (hx ▸ k)
end XW
section
variable {l : Launch} {ad : Nat → Nat} {D : va_G} {cy : Nat → ClassId}
/-- the value of the word of nine places from p on, k of them -/
def cv (t : List Nat) (p : Nat) : Nat → Nat
  | 0 => 0
  | k + 1 => if t.getD (p + k) 32 = 32 then cv t p k else cv t p k * 27 + (t.getD (p + k) 32 - 96)
def wf (t : List Nat) (V : Int64) : Nat → Int32
  | 0 => -1
  | w + 1 => if lN (cv t (9 * w) 9) = V then nI w else wf t V w
theorem b_mL7 : ∀ i, i < 54 → mL7.getD i 32 = 32 ∨ (97 ≤ mL7.getD i 32 ∧ mL7.getD i 32 ≤ 122) := by decide +kernel
set_option maxHeartbeats 4000000 in
set_option maxRecDepth 20000 in
theorem l_wi7 {K : Int32 → xH → Prop} {σ : xH} (hq : ∀ i, i < 54 → σ.1 7 i = nI (mL7.getD i 32)) (x : Int32) {w : Nat} (hw : w < 6) (hk : Ex l (oM ad D cy) mX5_wordOf 82 [some (.ref 0), some (.ref 7), some (.int x), some (.int (nI w)), some (.long (lN (cv mL7 (9 * w) 9))), none, none] [] σ (xQi K)) : ∀ (n i : Nat) , i + n = 9 →  Ex l (oM ad D cy) mX5_wordOf 27 [some (.ref 0), some (.ref 7), some (.int x), some (.int (nI w)), some (.long (lN (cv mL7 (9 * w) i))), none, some (.int (nI i))] [] σ (xQi K) := by
  intro n
  induction n with
  | zero =>
    intro i  hi 
    have hi : i = 9 := by omega
    subst hi
    refine x_iload (i := 6) dX5_wordOf_27 rfl ?_
    refine x_bipush (v := nI 9) dX5_wordOf_29 (by decide) ?_
    refine x_icgeN (tgt := 82) (by omega) (by omega) dX5_wordOf_31 rfl (fun h31 => ?_) (fun h31 => ?_)
    · skip
      exact x_mask [true, true, true, true, true, true, false] <| hk
    · exact absurd h31 (by omega)
  | succ n ih =>
    intro i  hi 
    have hb := b_mL7 (9 * w + i) (by omega)
    refine x_iload (i := 6) dX5_wordOf_27 rfl ?_
    refine x_bipush (v := nI 9) dX5_wordOf_29 (by decide) ?_
    refine x_icgeN (tgt := 82) (by omega) (by omega) dX5_wordOf_31 rfl (fun h31 => ?_) (fun h31 => ?_)
    · exact absurd h31 (by omega)
    · skip
      refine x_aload_n (i := 1) dX5_wordOf_34 rfl rfl ?_
      refine x_bipush (v := nI 9) dX5_wordOf_35 (by decide) ?_
      refine x_iload_n (i := 3) dX5_wordOf_37 rfl rfl ?_
      refine x_imulN dX5_wordOf_38 ?_
      refine x_iload (i := 6) dX5_wordOf_39 rfl ?_
      refine x_iaddN dX5_wordOf_41 ?_
      refine x_caldE rfl dX5_wordOf_42 rfl (by omega) (by decide) (hq (9 * w + i) (by omega)) ?_
      refine x_bipush (v := nI 32) dX5_wordOf_43 (by decide) ?_
      refine x_icneN (tgt := 53) (by omega) (by omega) dX5_wordOf_45 rfl (fun h45 => ?_) (fun h45 => ?_)
      · skip
        refine x_lload (i := 4) dX5_wordOf_53 rfl ?_
        refine x_ldc2 (v := 27) dX5_wordOf_55 kl_X5_187 ?_
        refine x_lmul dX5_wordOf_58 ?_
        refine x_aload_n (i := 1) dX5_wordOf_59 rfl rfl ?_
        refine x_bipush (v := nI 9) dX5_wordOf_60 (by decide) ?_
        refine x_iload_n (i := 3) dX5_wordOf_62 rfl rfl ?_
        refine x_imulN dX5_wordOf_63 ?_
        refine x_iload (i := 6) dX5_wordOf_64 rfl ?_
        refine x_iaddN dX5_wordOf_66 ?_
        refine x_caldE rfl dX5_wordOf_67 rfl (by omega) (by decide) (hq (9 * w + i) (by omega)) ?_
        refine x_i2l dX5_wordOf_68 ?_
        refine x_ladd dX5_wordOf_69 ?_
        refine x_ldc2 (v := 96) dX5_wordOf_70 kl_X5_189 ?_
        refine x_lsub dX5_wordOf_73 ?_
        refine x_lstore (i := 4) (ls2 := [_, _, _, _, _, _, _]) dX5_wordOf_74 (by decide) rfl ?_
        refine y_iincN (i := 6) (ls2 := [_, _, _, _, _, _, _]) dX5_wordOf_76 rfl (by decide) rfl rfl ?_
        refine x_goto (tgt := 27) dX5_wordOf_79 rfl ?_
        have hb2 := hb.resolve_left h45
        have ec : cv mL7 (9 * w) (i + 1) = cv mL7 (9 * w) i * 27 + (mL7.getD (9 * w + i) 32 - 96) := if_neg h45
        refine x_ls (ls' := [some (.ref 0), some (.ref 7), some (.int x), some (.int (nI w)), some (.long (lN (cv mL7 (9 * w) (i + 1)))), none, some (.int (nI (i + 1)))]) (by rw [ec, w_step hb2.1 hb2.2] <;> rfl) ?_
        exact ih (i + 1) (by omega)
      · skip
        refine x_lload (i := 4) dX5_wordOf_48 rfl ?_
        refine x_goto (tgt := 74) dX5_wordOf_50 rfl ?_
        refine x_lstore (i := 4) (ls2 := [_, _, _, _, _, _, _]) dX5_wordOf_74 (by decide) rfl ?_
        refine y_iincN (i := 6) (ls2 := [_, _, _, _, _, _, _]) dX5_wordOf_76 rfl (by decide) rfl rfl ?_
        refine x_goto (tgt := 27) dX5_wordOf_79 rfl ?_
        have ec : cv mL7 (9 * w) (i + 1) = cv mL7 (9 * w) i := if_pos h45
        refine x_ls (ls' := [some (.ref 0), some (.ref 7), some (.int x), some (.int (nI w)), some (.long (lN (cv mL7 (9 * w) (i + 1)))), none, some (.int (nI (i + 1)))]) (by rw [ec] <;> rfl) ?_
        exact ih (i + 1) (by omega)
theorem b_mL8 : ∀ i, i < 18 → mL8.getD i 32 = 32 ∨ (97 ≤ mL8.getD i 32 ∧ mL8.getD i 32 ≤ 122) := by decide +kernel
set_option maxHeartbeats 4000000 in
set_option maxRecDepth 20000 in
theorem l_wi8 {K : Int32 → xH → Prop} {σ : xH} (hq : ∀ i, i < 18 → σ.1 8 i = nI (mL8.getD i 32)) (x : Int32) {w : Nat} (hw : w < 2) (hk : Ex l (oM ad D cy) mX5_wordOf 82 [some (.ref 0), some (.ref 8), some (.int x), some (.int (nI w)), some (.long (lN (cv mL8 (9 * w) 9))), none, none] [] σ (xQi K)) : ∀ (n i : Nat) , i + n = 9 →  Ex l (oM ad D cy) mX5_wordOf 27 [some (.ref 0), some (.ref 8), some (.int x), some (.int (nI w)), some (.long (lN (cv mL8 (9 * w) i))), none, some (.int (nI i))] [] σ (xQi K) := by
  intro n
  induction n with
  | zero =>
    intro i  hi 
    have hi : i = 9 := by omega
    subst hi
    refine x_iload (i := 6) dX5_wordOf_27 rfl ?_
    refine x_bipush (v := nI 9) dX5_wordOf_29 (by decide) ?_
    refine x_icgeN (tgt := 82) (by omega) (by omega) dX5_wordOf_31 rfl (fun h31 => ?_) (fun h31 => ?_)
    · skip
      exact x_mask [true, true, true, true, true, true, false] <| hk
    · exact absurd h31 (by omega)
  | succ n ih =>
    intro i  hi 
    have hb := b_mL8 (9 * w + i) (by omega)
    refine x_iload (i := 6) dX5_wordOf_27 rfl ?_
    refine x_bipush (v := nI 9) dX5_wordOf_29 (by decide) ?_
    refine x_icgeN (tgt := 82) (by omega) (by omega) dX5_wordOf_31 rfl (fun h31 => ?_) (fun h31 => ?_)
    · exact absurd h31 (by omega)
    · skip
      refine x_aload_n (i := 1) dX5_wordOf_34 rfl rfl ?_
      refine x_bipush (v := nI 9) dX5_wordOf_35 (by decide) ?_
      refine x_iload_n (i := 3) dX5_wordOf_37 rfl rfl ?_
      refine x_imulN dX5_wordOf_38 ?_
      refine x_iload (i := 6) dX5_wordOf_39 rfl ?_
      refine x_iaddN dX5_wordOf_41 ?_
      refine x_caldE rfl dX5_wordOf_42 rfl (by omega) (by decide) (hq (9 * w + i) (by omega)) ?_
      refine x_bipush (v := nI 32) dX5_wordOf_43 (by decide) ?_
      refine x_icneN (tgt := 53) (by omega) (by omega) dX5_wordOf_45 rfl (fun h45 => ?_) (fun h45 => ?_)
      · skip
        refine x_lload (i := 4) dX5_wordOf_53 rfl ?_
        refine x_ldc2 (v := 27) dX5_wordOf_55 kl_X5_187 ?_
        refine x_lmul dX5_wordOf_58 ?_
        refine x_aload_n (i := 1) dX5_wordOf_59 rfl rfl ?_
        refine x_bipush (v := nI 9) dX5_wordOf_60 (by decide) ?_
        refine x_iload_n (i := 3) dX5_wordOf_62 rfl rfl ?_
        refine x_imulN dX5_wordOf_63 ?_
        refine x_iload (i := 6) dX5_wordOf_64 rfl ?_
        refine x_iaddN dX5_wordOf_66 ?_
        refine x_caldE rfl dX5_wordOf_67 rfl (by omega) (by decide) (hq (9 * w + i) (by omega)) ?_
        refine x_i2l dX5_wordOf_68 ?_
        refine x_ladd dX5_wordOf_69 ?_
        refine x_ldc2 (v := 96) dX5_wordOf_70 kl_X5_189 ?_
        refine x_lsub dX5_wordOf_73 ?_
        refine x_lstore (i := 4) (ls2 := [_, _, _, _, _, _, _]) dX5_wordOf_74 (by decide) rfl ?_
        refine y_iincN (i := 6) (ls2 := [_, _, _, _, _, _, _]) dX5_wordOf_76 rfl (by decide) rfl rfl ?_
        refine x_goto (tgt := 27) dX5_wordOf_79 rfl ?_
        have hb2 := hb.resolve_left h45
        have ec : cv mL8 (9 * w) (i + 1) = cv mL8 (9 * w) i * 27 + (mL8.getD (9 * w + i) 32 - 96) := if_neg h45
        refine x_ls (ls' := [some (.ref 0), some (.ref 8), some (.int x), some (.int (nI w)), some (.long (lN (cv mL8 (9 * w) (i + 1)))), none, some (.int (nI (i + 1)))]) (by rw [ec, w_step hb2.1 hb2.2] <;> rfl) ?_
        exact ih (i + 1) (by omega)
      · skip
        refine x_lload (i := 4) dX5_wordOf_48 rfl ?_
        refine x_goto (tgt := 74) dX5_wordOf_50 rfl ?_
        refine x_lstore (i := 4) (ls2 := [_, _, _, _, _, _, _]) dX5_wordOf_74 (by decide) rfl ?_
        refine y_iincN (i := 6) (ls2 := [_, _, _, _, _, _, _]) dX5_wordOf_76 rfl (by decide) rfl rfl ?_
        refine x_goto (tgt := 27) dX5_wordOf_79 rfl ?_
        have ec : cv mL8 (9 * w) (i + 1) = cv mL8 (9 * w) i := if_pos h45
        refine x_ls (ls' := [some (.ref 0), some (.ref 8), some (.int x), some (.int (nI w)), some (.long (lN (cv mL8 (9 * w) (i + 1)))), none, some (.int (nI (i + 1)))]) (by rw [ec] <;> rfl) ?_
        exact ih (i + 1) (by omega)
theorem b_mL9 : ∀ i, i < 54 → mL9.getD i 32 = 32 ∨ (97 ≤ mL9.getD i 32 ∧ mL9.getD i 32 ≤ 122) := by decide +kernel
set_option maxHeartbeats 4000000 in
set_option maxRecDepth 20000 in
theorem l_wi9 {K : Int32 → xH → Prop} {σ : xH} (hq : ∀ i, i < 54 → σ.1 9 i = nI (mL9.getD i 32)) (x : Int32) {w : Nat} (hw : w < 6) (hk : Ex l (oM ad D cy) mX5_wordOf 82 [some (.ref 0), some (.ref 9), some (.int x), some (.int (nI w)), some (.long (lN (cv mL9 (9 * w) 9))), none, none] [] σ (xQi K)) : ∀ (n i : Nat) , i + n = 9 →  Ex l (oM ad D cy) mX5_wordOf 27 [some (.ref 0), some (.ref 9), some (.int x), some (.int (nI w)), some (.long (lN (cv mL9 (9 * w) i))), none, some (.int (nI i))] [] σ (xQi K) := by
  intro n
  induction n with
  | zero =>
    intro i  hi 
    have hi : i = 9 := by omega
    subst hi
    refine x_iload (i := 6) dX5_wordOf_27 rfl ?_
    refine x_bipush (v := nI 9) dX5_wordOf_29 (by decide) ?_
    refine x_icgeN (tgt := 82) (by omega) (by omega) dX5_wordOf_31 rfl (fun h31 => ?_) (fun h31 => ?_)
    · skip
      exact x_mask [true, true, true, true, true, true, false] <| hk
    · exact absurd h31 (by omega)
  | succ n ih =>
    intro i  hi 
    have hb := b_mL9 (9 * w + i) (by omega)
    refine x_iload (i := 6) dX5_wordOf_27 rfl ?_
    refine x_bipush (v := nI 9) dX5_wordOf_29 (by decide) ?_
    refine x_icgeN (tgt := 82) (by omega) (by omega) dX5_wordOf_31 rfl (fun h31 => ?_) (fun h31 => ?_)
    · exact absurd h31 (by omega)
    · skip
      refine x_aload_n (i := 1) dX5_wordOf_34 rfl rfl ?_
      refine x_bipush (v := nI 9) dX5_wordOf_35 (by decide) ?_
      refine x_iload_n (i := 3) dX5_wordOf_37 rfl rfl ?_
      refine x_imulN dX5_wordOf_38 ?_
      refine x_iload (i := 6) dX5_wordOf_39 rfl ?_
      refine x_iaddN dX5_wordOf_41 ?_
      refine x_caldE rfl dX5_wordOf_42 rfl (by omega) (by decide) (hq (9 * w + i) (by omega)) ?_
      refine x_bipush (v := nI 32) dX5_wordOf_43 (by decide) ?_
      refine x_icneN (tgt := 53) (by omega) (by omega) dX5_wordOf_45 rfl (fun h45 => ?_) (fun h45 => ?_)
      · skip
        refine x_lload (i := 4) dX5_wordOf_53 rfl ?_
        refine x_ldc2 (v := 27) dX5_wordOf_55 kl_X5_187 ?_
        refine x_lmul dX5_wordOf_58 ?_
        refine x_aload_n (i := 1) dX5_wordOf_59 rfl rfl ?_
        refine x_bipush (v := nI 9) dX5_wordOf_60 (by decide) ?_
        refine x_iload_n (i := 3) dX5_wordOf_62 rfl rfl ?_
        refine x_imulN dX5_wordOf_63 ?_
        refine x_iload (i := 6) dX5_wordOf_64 rfl ?_
        refine x_iaddN dX5_wordOf_66 ?_
        refine x_caldE rfl dX5_wordOf_67 rfl (by omega) (by decide) (hq (9 * w + i) (by omega)) ?_
        refine x_i2l dX5_wordOf_68 ?_
        refine x_ladd dX5_wordOf_69 ?_
        refine x_ldc2 (v := 96) dX5_wordOf_70 kl_X5_189 ?_
        refine x_lsub dX5_wordOf_73 ?_
        refine x_lstore (i := 4) (ls2 := [_, _, _, _, _, _, _]) dX5_wordOf_74 (by decide) rfl ?_
        refine y_iincN (i := 6) (ls2 := [_, _, _, _, _, _, _]) dX5_wordOf_76 rfl (by decide) rfl rfl ?_
        refine x_goto (tgt := 27) dX5_wordOf_79 rfl ?_
        have hb2 := hb.resolve_left h45
        have ec : cv mL9 (9 * w) (i + 1) = cv mL9 (9 * w) i * 27 + (mL9.getD (9 * w + i) 32 - 96) := if_neg h45
        refine x_ls (ls' := [some (.ref 0), some (.ref 9), some (.int x), some (.int (nI w)), some (.long (lN (cv mL9 (9 * w) (i + 1)))), none, some (.int (nI (i + 1)))]) (by rw [ec, w_step hb2.1 hb2.2] <;> rfl) ?_
        exact ih (i + 1) (by omega)
      · skip
        refine x_lload (i := 4) dX5_wordOf_48 rfl ?_
        refine x_goto (tgt := 74) dX5_wordOf_50 rfl ?_
        refine x_lstore (i := 4) (ls2 := [_, _, _, _, _, _, _]) dX5_wordOf_74 (by decide) rfl ?_
        refine y_iincN (i := 6) (ls2 := [_, _, _, _, _, _, _]) dX5_wordOf_76 rfl (by decide) rfl rfl ?_
        refine x_goto (tgt := 27) dX5_wordOf_79 rfl ?_
        have ec : cv mL9 (9 * w) (i + 1) = cv mL9 (9 * w) i := if_pos h45
        refine x_ls (ls' := [some (.ref 0), some (.ref 9), some (.int x), some (.int (nI w)), some (.long (lN (cv mL9 (9 * w) (i + 1)))), none, some (.int (nI (i + 1)))]) (by rw [ec] <;> rfl) ?_
        exact ih (i + 1) (by omega)
end
