section
variable {l : Launch} {ad : Nat → Nat} {D : va_G} {cy : Nat → ClassId}
end
section XS
variable {l : Launch} {Ω : xW} {M N : xM} {pc idx : Nat} {ls : List (Option Value)} {st : List Value} {σ : xH} {Q Q2 : Option Value → xH → Prop}
theorem x_gsv {i : Nat} (hi : i < 14) (hd : decode (xcc M) pc = .ok (.getfield idx, 3)) (hlk : Cond.fieldLink (xy M).cls idx "java/lang/String" "value" "[B" ∈ gt) (k : Ex l Ω M (pc + 3) ls (.ref (2000 + i) :: st) σ Q) : Ex l Ω M pc ls (.ref (1000 + i) :: st) σ Q := by
  intro p e s m args below meth c H locs A ls' B hP hD hS hl
  obtain ⟨hx, hb, hr0, hml, hown, hts, hlocks, hK, hA, hE⟩ := id B
  exact vk_getf hx hb (hE.2.1.1 i hi).2.2.1 hS hown (hts _ hlk) (fun _ h => h) hd (k p e s m args below meth c H locs A ls' B hP hD hS hl)
theorem x_gsc {i : Nat} (hi : i < 14) (hd : decode (xcc M) pc = .ok (.getfield idx, 3)) (hlk : Cond.fieldLink (xy M).cls idx "java/lang/String" "coder" "B" ∈ gt) (k : Ex l Ω M (pc + 3) ls (.int 0 :: st) σ Q) : Ex l Ω M pc ls (.ref (1000 + i) :: st) σ Q := by
  intro p e s m args below meth c H locs A ls' B hP hD hS hl
  obtain ⟨hx, hb, hr0, hml, hown, hts, hlocks, hK, hA, hE⟩ := id B
  exact vk_getf hx hb (hE.2.1.1 i hi).2.1 hS hown (hts _ hlk) (fun _ h => h) hd (k p e s m args below meth c H locs A ls' B hP hD hS hl)
theorem x_gss (hd : decode (xcc M) pc = .ok (.getstatic idx, 3)) (hlk : Cond.fieldLink (xy M).cls idx "java/lang/String" "COMPACT_STRINGS" "Z" ∈ gt) (k : Ex l Ω M (pc + 3) ls (.int 1 :: st) σ Q) : Ex l Ω M pc ls st σ Q := by
  intro p e s m args below meth c H locs A ls' B hP hD hS hl
  obtain ⟨hx, hb, hr0, hml, hown, hts, hlocks, hK, hA, hE⟩ := id B
  exact va_gets hx hb hE.2.2.2.1 hS hown (hts _ hlk) (fun _ h => h) hd (k p e s m args below meth c H locs A ls' B hP hD hS hl)
theorem x_gsf (hd : decode (xcc M) pc = .ok (.getstatic idx, 3)) (hlk : Cond.fieldLink (xy M).cls idx "jdk/internal/util/Preconditions" "SIOOBE_FORMATTER" "Ljava/util/function/BiFunction;" ∈ gt) (k1 : Ex l Ω M (pc + 3) ls (.null :: st) σ Q) (k : Ex l Ω M (pc + 3) ls (.ref 3000 :: st) σ Q) : Ex l Ω M pc ls st σ Q := by
  intro p e s m args below meth c H locs A ls' B hP hD hS hl
  obtain ⟨hx, hb, hr0, hml, hown, hts, hlocks, hK, hA, hE⟩ := id B
  rcases hE.2.2.2.2 with h | h
  · exact va_gets hx hb h hS hown (hts _ hlk) (fun _ h => h) hd (k1 p e s m args below meth c H locs A ls' B hP hD hS hl)
  · exact va_gets hx hb h hS hown (hts _ hlk) (fun _ h => h) hd (k p e s m args below meth c H locs A ls' B hP hD hS hl)
theorem x_slen {i : Nat} {v : Int32} (hi : i < 14) (hv : Int32.ofNat (xlen.getD i 0) = v) (hd : decode (xcc M) pc = .ok (.arraylength, 1)) (k : Ex l Ω M (pc + 1) ls (.int v :: st) σ Q) : Ex l Ω M pc ls (.ref (2000 + i) :: st) σ Q := by
  intro p e s m args below meth c H locs A ls' B hP hD hS hl
  obtain ⟨hx, hb, hr0, hml, hown, hts, hlocks, hK, hA, hE⟩ := id B
  exact va_tlen hx hb (hE.2.1.1 i hi).2.2.2 hS hv hd (k p e s m args below meth c H locs A ls' B hP hD hS hl)
theorem x_sbal {i : Nat} {j : Int32} (hi : i < 14) (hin : vp_in j (xlen.getD i 0)) (hd : decode (xcc M) pc = .ok (.baload, 1)) (k : Ex l Ω M (pc + 1) ls (.int ((xbyt.getD i []).getD j.toNatClampNeg 0) :: st) σ Q) : Ex l Ω M pc ls (.int j :: .ref (2000 + i) :: st) σ Q := by
  intro p e s m args below meth c H locs A ls' B hP hD hS hl
  obtain ⟨hx, hb, hr0, hml, hown, hts, hlocks, hK, hA, hE⟩ := id B
  exact va_tb hx hb (hE.2.1.1 i hi).2.2.2 hS hin rfl hd (k p e s m args below meth c H locs A ls' B hP hD hS hl)
theorem x_i2c {x : Int32} (hd : decode (xcc M) pc = .ok (.i2c, 1)) (k : Ex l Ω M (pc + 1) ls (.int (x.toUInt32 % 65536).toInt32 :: st) σ Q) : Ex l Ω M pc ls (.int x :: st) σ Q := by
  intro p e s m args below meth c H locs A ls' B hP hD hS hl
  obtain ⟨hx, hb, hr0, hml, hown, hts, hlocks, hK, hA, hE⟩ := id B
  exact lv_i2c hx hb hd rfl (k p e s m args below meth c H locs A ls' B hP hD hS hl)
theorem x_bret {v : Int32} {K : Int32 → xH → Prop} (hd : decode (xcc M) pc = .ok (.ireturn, 1)) (hr : xret M = some .byte) (hn : narrow .byte (.int v) = .int v) (hq : K v σ) : Ex l Ω M pc ls [.int v] σ (xQi K) := by
  intro p e s m args below meth c H locs A ls' B hP hD hS hl
  obtain ⟨hx, hb, hr0, hml, hown, hts, hlocks, hK, hA, hE⟩ := id B
  exact W.zret (v := v) (ty := .byte) hx hb (hr0.trans hr) hn (fun t ht hW => xend (oc := some (.int v)) hP hK hD hS ⟨v, rfl, hq⟩ args ht hW) hS.2.2 hd hlocks
theorem x_cret {v : Int32} {K : Int32 → xH → Prop} (hd : decode (xcc M) pc = .ok (.ireturn, 1)) (hr : xret M = some .char) (hn : narrow .char (.int v) = .int v) (hq : K v σ) : Ex l Ω M pc ls [.int v] σ (xQi K) := by
  intro p e s m args below meth c H locs A ls' B hP hD hS hl
  obtain ⟨hx, hb, hr0, hml, hown, hts, hlocks, hK, hA, hE⟩ := id B
  exact W.zret (v := v) (ty := .char) hx hb (hr0.trans hr) hn (fun t ht hW => xend (oc := some (.int v)) hP hK hD hS ⟨v, rfl, hq⟩ args ht hW) hS.2.2 hd hlocks
theorem x_w0i {i : Nat} (hd : decode (xcc M) pc = .ok (.invokevirtual idx, 3)) (hN : xokV N 0) (hlk : Cond.methodLink (xy M).cls idx (xy N) ∈ gt) (hc : (xy N).cls = RJ0) (hi : i < 14) (hlen : (xarg (.ref (1000 + i) :: [])).length ≤ xnL N) (hfit : xfit M N) (hst : (st.map fun v => v.category).sum ≤ 8) (hv : Evi l Ω N (.ref (1000 + i) :: []) σ (fun x τ => Ex l Ω M (pc + 3) ls (.int x :: st) τ Q)) : Ex l Ω M pc ls (.ref (1000 + i) :: st) σ Q :=
  x_callV0 (As := []) hd hN hlk (by rw [hc]; exact x_recvS hi) rfl (xlen_ok _ _ _ hlen) hfit hst hv (fun r τ ⟨x, e, h⟩ => by subst e; exact h)
theorem x_w1i {i : Nat} {a0 : Value} (hd : decode (xcc M) pc = .ok (.invokevirtual idx, 3)) (hN : xokV N 1) (hlk : Cond.methodLink (xy M).cls idx (xy N) ∈ gt) (hc : (xy N).cls = RJ0) (hi : i < 14) (hlen : (xarg (.ref (1000 + i) :: [a0])).length ≤ xnL N) (hfit : xfit M N) (hst : (st.map fun v => v.category).sum ≤ 8) (hv : Evi l Ω N (.ref (1000 + i) :: [a0]) σ (fun x τ => Ex l Ω M (pc + 3) ls (.int x :: st) τ Q)) : Ex l Ω M pc ls (a0 :: .ref (1000 + i) :: st) σ Q :=
  x_callV0 (As := [a0]) hd hN hlk (by rw [hc]; exact x_recvS hi) rfl (xlen_ok _ _ _ hlen) hfit hst hv (fun r τ ⟨x, e, h⟩ => by subst e; exact h)
end XS
section
variable {l : Launch} {ad : Nat → Nat} {D : va_G} {cy : Nat → ClassId}
end
