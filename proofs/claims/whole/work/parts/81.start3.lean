set_option maxHeartbeats 4000000 in
set_option maxRecDepth 100000 in
theorem whole_start {p : Program} {e : Env} {s : State} {m : MethodId} {below : List Frame} {meth : Method} {c : Code} (l : Launch) (hflags : l.flags = flags0) {b L : Nat} {xs : Nat → Int32} (hL : L ≤ 3072) (C0 : lw_At p s m meth c b L xs) : W p l e room_1 s m #[Value.ref b] below meth c s.heap [] 0 0 (lw_Z below #[Value.ref b] s) (entryFrame m ([Value.ref b] : List Value).toArray 4) := by
  obtain ⟨hx, hb, hr, hml, hown, hts0, hX, hbl, hlocks, hgv⟩ := id C0
  have hts : ∀ w ∈ gt, w.before #[Value.ref b] s = true := fun w h => hts0 w (gt_in h)
  obtain ⟨z, hE⟩ := xE_start C0
  have hA : ∀ q, s.heap.size ≤ q → lA s q := fun _ h => h
  obtain ⟨c0, i0, hK0⟩ := u_known (C := RX1) (T := TX1) (N := 3) (n := 3) hts inX1 (hts _ ia_X1)
  obtain ⟨c1, i1, hK1⟩ := u_known (C := RX2) (T := TX2) (N := 6) (n := 6) hts inX2 (hts _ ia_X2)
  obtain ⟨c2, i2, hK2⟩ := u_known (C := RX3) (T := TX3) (N := 8) (n := 8) hts inX3 (hts _ ia_X3)
  obtain ⟨c3, i3, hK3⟩ := u_known (C := RX4) (T := TX4) (N := 7) (n := 7) hts inX4 (hts _ ia_X4)
  obtain ⟨c4, i4, hK4⟩ := u_known (C := RX5) (T := TX5) (N := 21) (n := 21) hts inX5 (hts _ ia_X5)
  obtain ⟨D, hKc⟩ : ∃ D : va_G, ∀ (k : Nat) (q : vw_C), vwCl[k]? = some q → u_Kn s q.1 q.2.1 q.2.2 (D.1 k) (D.2 k) := by
    refine ⟨(fun k => if k = 0 then c0 else if k = 1 then c1 else if k = 2 then c2 else if k = 3 then c3 else c4, fun k => if k = 0 then i0 else if k = 1 then i1 else if k = 2 then i2 else if k = 3 then i3 else i4), ?_⟩
    intro k q hq
    match k, hq with
    | 0, hq => cases hq; exact hK0
    | 1, hq => cases hq; exact hK1
    | 2, hq => cases hq; exact hK2
    | 3, hq => cases hq; exact hK3
    | 4, hq => cases hq; exact hK4
    | k + 5, hq => exact absurd (List.getElem?_eq_some_iff.mp hq).1 (Nat.not_lt.mpr (Nat.le_add_left _ _))
  obtain ⟨cI, kI, oI, f1, f2, f3⟩ := Cond.arrayClass_spec (hts _ ac_int)
  obtain ⟨cL, kL, oL, g1, g2, g3⟩ := Cond.arrayClass_spec (hts _ ac_long)
  obtain ⟨cB, kB, oB, e1, e2, e3⟩ := Cond.arrayClass_spec (hts _ ac_char)
  obtain ⟨oR, cR, kR, r1, r2, r3, r4, r5⟩ := Cond.arrayOver_spec (hts0 _ tl4)
  obtain ⟨yc, y0, y1, y2⟩ : ∃ y : Nat → ClassId, y 0 = cI ∧ y 1 = cL ∧ y 2 = cR := ⟨fun k => if k = 0 then cI else if k = 1 then cL else cR, rfl, rfl, rfl⟩
  obtain ⟨ym, u0, u1, u2⟩ : ∃ y : Nat → ClassId, y 0 = cI ∧ y 1 = cL ∧ y 2 = cB := ⟨fun k => if k = 0 then cI else if k = 1 then cL else cB, rfl, rfl, rfl⟩
  have aI : ArrOfT s cI .int ∧ va_RA s cI .int := ⟨fun n z => ⟨fun k h => (by cases h), kI, f2, oI, f3⟩, f1⟩
  have aL : ArrOfT s cL .long ∧ va_RA s cL .long := ⟨fun n z => ⟨fun k h => (by cases h), kL, g2, oL, g3⟩, g1⟩
  have aB : ArrOfT s cB .char ∧ va_RA s cB .char := ⟨fun n z => ⟨fun k h => (by cases h), kB, e2, oB, e3⟩, e1⟩
  have aR : ArrOfT s cR (.object RX1) ∧ va_RA s cR (.object RX1) := ⟨fun n z => ⟨fun k h => (by cases h), kR, r3, oR, r4⟩, kR, oR, r3, r4, r1, r5⟩
  have hKC : va_K D vwCl (zC yc) s := ⟨hKc, fun k q hq => by
    match k, hq with
    | 0, hq => cases hq; rw [y0]; exact aI
    | 1, hq => cases hq; rw [y1]; exact aL
    | 2, hq => cases hq; rw [y2]; exact aR
    | k + 3, hq => exact absurd (List.getElem?_eq_some_iff.mp hq).1 (Nat.not_lt.mpr (Nat.le_add_left _ _))⟩
  have hKM : va_K D vwCl (zM ym) s := ⟨hKc, fun k q hq => by
    match k, hq with
    | 0, hq => cases hq; rw [u0]; exact aI
    | 1, hq => cases hq; rw [u1]; exact aL
    | 2, hq => cases hq; rw [u2]; exact aB
    | k + 3, hq => exact absurd (List.getElem?_eq_some_iff.mp hq).1 (Nat.not_lt.mpr (Nat.le_add_left _ _))⟩
  have hS : va_S (lA s) s.heap s.heap [] := va_S.rf
  have hP : va_P D vwCl [] s.heap := fun k q h => by simp at h
  have hD : va_D (lA s) [] := ⟨fun i j p q h => by simp at h, fun k q h => by simp at h⟩
  have hl := lv_entry ([.ref b]) (n := 4) (Nat.le_of_ble_eq_true rfl)
  rw [lg_entry_eq]
  generalize (lg_sl ([.ref b]) ++ List.replicate (4 - (lg_sl ([.ref b])).length) Slot.unset).toArray = ls at hl ⊢
  have hl : lv_has ls 4 [(0, .ref b)] := hl
  refine va_new (ci := 3) (fs := [.null, .null, .null, .null, .null, .null, .int 0]) (C := RX4) (T := TX4) (N := 7) hx hb hts inX4 tyX4 tyX4_ok hown (hts _ cl_L_7) (hts _ ia_X4) (hts _ in_X4) hKC hP hD hS hA rfl df_X4 (Nat.le_of_ble_eq_true rfl) (Nat.le_of_ble_eq_true rfl) dL_law_0 (fun q0 H hP hD hS => ?_)
  refine lv_dup hx hb dL_law_3 rfl ?_
  refine z_run (N := mX4_init) (own := RL) (wr := []) ⟨hx, hb, hml, hown, hts⟩ (zi_X4 l D yc q0) nX4_init ml_L_9 ⟨by decide, by decide⟩ hP hD hS hKC (va_AO.of (hts0 _ tl4)) hA hl.1 (Nat.le_of_ble_eq_true rfl) dL_law_4 ⟨Nat.le_of_ble_eq_true rfl, Nat.le_of_ble_eq_true rfl⟩ (fun w1 H locs2 hq hP hD hS2 => ?_)
  obtain ⟨ac, ha0, haz, hcP, hcD⟩ := wx_X4 z hq
  have hP2 := hcP H hP
  have hD2 := hcD _ hD
  subst ha0
  refine lv_astore_n (lv' := [(1, .ref (ac 0)), (0, .ref b)]) hx hb dL_law_7 rfl hl (by decide) rfl (fun ls hl => ?_)
  refine va_new (ci := 4) (fs := [.null, .null, .null, .int 0, .null, .null, .int 0, .int 0, .null, .int 0, .int 0, .int 0, .int 0, .long 0, .null, .null, .null, .null, .null, .null, .null]) (C := RX5) (T := TX5) (N := 21) hx hb hts inX5 tyX5 tyX5_ok hown (hts _ cl_L_10) (hts _ ia_X5) (hts _ in_X5) hKC hP2 hD2 hS2 hA rfl df_X5 (Nat.le_of_ble_eq_true rfl) (Nat.le_of_ble_eq_true rfl) dL_law_8 (fun q1 H3 hP3 hD3 hS3 => ?_)
  refine lv_dup hx hb dL_law_11 rfl ?_
  refine z_run (N := mX5_init) (own := RL) (wr := xw (oC ac D yc) s0C) ⟨hx, hb, hml, hown, hts⟩ (zi_X5 l D ym q1) nX5_init ml_L_12 ⟨by decide, by decide⟩ hP3 hD3 hS3 hKM (va_AO.of (hts0 _ tl4)) hA hl.1 (Nat.le_of_ble_eq_true rfl) dL_law_12 ⟨Nat.le_of_ble_eq_true rfl, Nat.le_of_ble_eq_true rfl⟩ (fun w2 H4 locs4 hq4 hP4 hD4 hS4 => ?_)
  obtain ⟨am, hm0, hmz, rfl⟩ := wy_X5 (cy := ym) (D := D) z hq4
  subst hm0
  have n1 : (xw (oC ac D yc) s0C).length = 31 := xw_len _ _
  have n2 : (xw (oM am D ym) s0M).length = 14 := xw_len _ _
  have lC : ∀ (k : Nat) (q : Nat × va_E), (xw (oC ac D yc) s0C)[k]? = some q → (xw (oC ac D yc) s0C ++ xw (oM am D ym) s0M)[k]? = some q := fun k q hk => by
    rw [List.getElem?_append_left (List.getElem?_eq_some_iff.mp hk).1]
    exact hk
  have lM : ∀ (k : Nat) (q : Nat × va_E), (xw (oM am D ym) s0M)[k]? = some q → (xw (oC ac D yc) s0C ++ xw (oM am D ym) s0M)[31 + k]? = some q := fun k q hk => by
    rw [List.getElem?_append_right (by omega), n1, show 31 + k - 31 = k by omega]
    exact hk
  have hPC : va_P D vwCl (xw (oC ac D yc) s0C) H4 := fun k q hk => hP4 k q (lC k q hk)
  have hPM : va_P D vwCl (xw (oM am D ym) s0M) H4 := fun k q hk => hP4 (31 + k) q (lM k q hk)
  have hDC : va_D (lA s) (xw (oC ac D yc) s0C) := ⟨fun i j x y hi hj h => hD4.1 i j x y (lC i x hi) (lC j y hj) h, fun k q hk => hD4.2 k q (lC k q hk)⟩
  have hDM : va_D (lA s) (xw (oM am D ym) s0M) := ⟨fun i j x y hi hj h => by have := hD4.1 (31 + i) (31 + j) x y (lM i x hi) (lM j y hj) h; omega, fun k q hk => hD4.2 (31 + k) q (lM k q hk)⟩
  have hap : ∀ j k, j < 31 → k < 14 → ac j ≠ am k := fun j k hj hk h => by
    have h1 := lC j _ (xw_get (Ω := oC ac D yc) (σ := s0C) (List.getElem?_eq_getElem (l := shC) (i := j) hj))
    have h2 := lM k _ (xw_get (Ω := oM am D ym) (σ := s0M) (List.getElem?_eq_getElem (l := shM) (i := k) hk))
    have := hD4.1 j (31 + k) _ _ h1 h2 h
    omega
  refine lv_astore_n (lv' := [(2, .ref (am 0)), (1, .ref (ac 0)), (0, .ref b)]) hx hb dL_law_15 rfl hl (by decide) rfl (fun ls hl => ?_)
  refine lv_iconst (v := nI 0) hx hb dL_law_16 (by decide) ?_
  refine lv_istore_n (lv' := [(3, .int (nI 0)), (2, .ref (am 0)), (1, .ref (ac 0)), (0, .ref b)]) hx hb dL_law_17 rfl hl (by decide) rfl (fun ls hl => ?_)
  refine W.widen (k := 45) (n := 1715) (Nat.le_of_ble_eq_true rfl) (Nat.le_of_ble_eq_true rfl) ?_
  exact law_loop (kc := 45) (ks := 1715) (xs := xs) (L := L) ⟨C0, hKC, hKM, hE (oC ac D yc) (fun k hk => haz k (by omega)), hE (oM am D ym) (fun k hk => hmz k (by omega)), hap, hL, Nat.le_of_ble_eq_true rfl, Nat.le_of_ble_eq_true rfl⟩ 513 0 s0C s0M S0 (by omega) (by omega) cS_0 mS_0 sOk_0 H4 locs4 ls hPC hPM hDC hDM hS4 (lv_sub hl [3, 2, 1, 0] rfl)
