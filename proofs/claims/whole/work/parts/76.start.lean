/-! THE CLAIM OUT OF ONE WALK OF THE LAW'S BODY. Your part is whole_start (and what it stands on); all else here is the same for every law, but numbers. -/
def R_law : String := "BumpStreetsLaw"
def lw_P (b : Addr) (xs : List Int32) (args : Array Value) (s : State) : Prop := args = #[.ref b] ∧ s.IntsAt b xs ∧ xs.length ≤ 3072 ∧ (Jvm.Cond.and given_1 narrow_1).before args s = true
def lw_Q (_ : Array Value) (s : State) (o : Outcome) (t : State) : Prop := o = .returned (some (.int 1)) ∧ Framed s o t [] 600000 7302250
def lw_Z (below : List Frame) (a : Array Value) (s : State) : State → Prop := fun t => ∃ o, t.status = .running ∧ Ended t below o ∧ lw_Q a s o t
/-- the law's own end, with 1 on the stack, nothing written that was there before, its room as the claim has it -/
theorem lw_ret {p : Program} {l : Launch} {e : Env} {s : State} {m : MethodId} {below : List Frame} {meth : Method} {c : Code} {b : Nat} (hx : p.tables.exec = Jvm.exec) (hb : c.code = code) (hr : meth.sig.returnType = ret) (hlocks : meth.locks = false) {pc : Nat} {H : Heap} {ls : Array Slot} (hdg : decode code pc = .ok (.ireturn, 1)) : W p l e room_1 s m #[Value.ref b] below meth c H [] 600000 7302250 (lw_Z below #[Value.ref b] s) (F0 m pc ls [.int 1]) := by
  intro T hT X
  obtain ⟨fs, hret, hrun, hended, hW, hframe⟩ := X.leave (v := some (.int 1)) (hlocks := hlocks) (fun h => by rw [hr] at h; cases h)
  have hmeth' : T.vm.method? m = some meth := X.method'
  refine ⟨T.setFrames fs, ?_, .returned (some (.int 1)), hrun, hended, rfl, ⟨_, rfl⟩, hW, hframe⟩
  jvm_step X.here [X.here.top, hx, hb, hdg, hmeth', hr, ret, narrow_b1]
  (try refine ⟨rfl, ?_⟩); (try refine ⟨rfl, ?_⟩)
  first | (intro acts; rw [hret _ acts rfl rfl rfl]) | rw [hret _ _ rfl rfl rfl]
  exact Steps.refl _
/-- what holds at the law's entry: the machine, the code, the tables' words (any of lw_tbl by 'hts w (by decide +kernel)'), the script of L ints xs at the cell b, what the Statement gives of the start (any of its parts by flat_of_before) -/
def lw_At (p : Program) (s : State) (m : MethodId) (meth : Method) (c : Code) (b L : Nat) (xs : Nat → Int32) : Prop :=
  p.tables.exec = Jvm.exec ∧ c.code = code ∧ meth.sig.returnType = ret ∧ c.maxLocals = 4 ∧ s.vm.findClass R_law = some m.cls ∧ (∀ w ∈ lw_tbl, w.before #[Value.ref b] s = true) ∧ va_X b L xs s s.heap ∧ b < s.heap.size ∧ meth.locks = false ∧ (Jvm.Cond.and given_1 narrow_1).before #[Value.ref b] s = true
abbrev pr1 : Cond := Jvm.Cond.and given_1 narrow_1
abbrev tm (i : Nat) : Term := .string "BumpStreets$Tape" ((xstr.getD i (0, "")).1)
theorem tq1 : ∀ i, i < 14 → Cond.exactly (tm i) "java/lang/String" ∈ flatC pr1 := by decide +kernel
theorem tq2 : ∀ i, i < 14 → Cond.eq (.field (tm i) "java/lang/String" "coder" "B") (.int 0) ∈ flatC pr1 := by decide +kernel
theorem tq3 : ∀ i, i < 14 → Cond.arrayOf (.field (tm i) "java/lang/String" "value" "[B") .byte ∈ flatC pr1 := by decide +kernel
theorem tq4 : ∀ i, i < 14 → Cond.eq (.length (.field (tm i) "java/lang/String" "value" "[B")) (.int (Int32.ofNat (xlen.getD i 0))) ∈ flatC pr1 := by decide +kernel
theorem tq5 : ∀ i, i < 14 → ∀ j, j < xlen.getD i 0 → Cond.eq (.elem (.field (tm i) "java/lang/String" "value" "[B") (.int (Int32.ofNat j))) (.int ((xbyt.getD i []).getD j 0)) ∈ flatC pr1 := by decide +kernel
theorem tq6_0 : ∀ j, j < 14 → 0 < j → Cond.not (Cond.eq (tm 0) (tm j)) ∈ flatC pr1 := by decide +kernel
theorem tq6_1 : ∀ j, j < 14 → 1 < j → Cond.not (Cond.eq (tm 1) (tm j)) ∈ flatC pr1 := by decide +kernel
theorem tq6_2 : ∀ j, j < 14 → 2 < j → Cond.not (Cond.eq (tm 2) (tm j)) ∈ flatC pr1 := by decide +kernel
theorem tq6_3 : ∀ j, j < 14 → 3 < j → Cond.not (Cond.eq (tm 3) (tm j)) ∈ flatC pr1 := by decide +kernel
theorem tq6_4 : ∀ j, j < 14 → 4 < j → Cond.not (Cond.eq (tm 4) (tm j)) ∈ flatC pr1 := by decide +kernel
theorem tq6_5 : ∀ j, j < 14 → 5 < j → Cond.not (Cond.eq (tm 5) (tm j)) ∈ flatC pr1 := by decide +kernel
theorem tq6_6 : ∀ j, j < 14 → 6 < j → Cond.not (Cond.eq (tm 6) (tm j)) ∈ flatC pr1 := by decide +kernel
theorem tq6_7 : ∀ j, j < 14 → 7 < j → Cond.not (Cond.eq (tm 7) (tm j)) ∈ flatC pr1 := by decide +kernel
theorem tq6_8 : ∀ j, j < 14 → 8 < j → Cond.not (Cond.eq (tm 8) (tm j)) ∈ flatC pr1 := by decide +kernel
theorem tq6_9 : ∀ j, j < 14 → 9 < j → Cond.not (Cond.eq (tm 9) (tm j)) ∈ flatC pr1 := by decide +kernel
theorem tq6_10 : ∀ j, j < 14 → 10 < j → Cond.not (Cond.eq (tm 10) (tm j)) ∈ flatC pr1 := by decide +kernel
theorem tq6_11 : ∀ j, j < 14 → 11 < j → Cond.not (Cond.eq (tm 11) (tm j)) ∈ flatC pr1 := by decide +kernel
theorem tq6_12 : ∀ j, j < 14 → 12 < j → Cond.not (Cond.eq (tm 12) (tm j)) ∈ flatC pr1 := by decide +kernel
theorem tq6 : ∀ i, i < 14 → ∀ j, j < 14 → i < j → Cond.not (Cond.eq (tm i) (tm j)) ∈ flatC pr1 := by
  intro i hi
  match i, hi with
  | 0, _ => exact tq6_0
  | 1, _ => exact tq6_1
  | 2, _ => exact tq6_2
  | 3, _ => exact tq6_3
  | 4, _ => exact tq6_4
  | 5, _ => exact tq6_5
  | 6, _ => exact tq6_6
  | 7, _ => exact tq6_7
  | 8, _ => exact tq6_8
  | 9, _ => exact tq6_9
  | 10, _ => exact tq6_10
  | 11, _ => exact tq6_11
  | 12, _ => exact tq6_12
  | 13, _ => exact fun j h1 h2 => absurd h2 (by omega)
  | i + 14, hi => exact absurd hi (by omega)
theorem tq7 : ∀ i, i < 14 → xlen.getD i 0 < 2 ^ 31 := by decide +kernel
theorem tq8 : Cond.eq (.static "java/lang/String" "COMPACT_STRINGS" "Z") (.int 1) ∈ flatC pr1 := by decide +kernel
theorem tq9 : Cond.isRef (.static "jdk/internal/util/Preconditions" "SIOOBE_FORMATTER" "Ljava/util/function/BiFunction;") ∈ flatC pr1 := by decide +kernel
theorem ts0 : Cond.stringRef RX2 88 "driver" ∈ lw_tbl := List.mem_of_getElem? (i := 466) (by decide +kernel)
theorem ts1 : Cond.stringRef RX2 90 "bus" ∈ lw_tbl := List.mem_of_getElem? (i := 519) (by decide +kernel)
theorem ts2 : Cond.stringRef RX2 92 "lorry" ∈ lw_tbl := List.mem_of_getElem? (i := 520) (by decide +kernel)
theorem ts3 : Cond.stringRef RX2 94 "local" ∈ lw_tbl := List.mem_of_getElem? (i := 521) (by decide +kernel)
theorem ts4 : Cond.stringRef RX2 96 "ambulance" ∈ lw_tbl := List.mem_of_getElem? (i := 522) (by decide +kernel)
theorem ts5 : Cond.stringRef RX2 98 "racer" ∈ lw_tbl := List.mem_of_getElem? (i := 523) (by decide +kernel)
theorem ts6 : Cond.stringRef RX2 74 "wish" ∈ lw_tbl := List.mem_of_getElem? (i := 529) (by decide +kernel)
theorem ts7 : Cond.stringRef RX2 79 "in" ∈ lw_tbl := List.mem_of_getElem? (i := 534) (by decide +kernel)
theorem ts8 : Cond.stringRef RX2 100 "clear" ∈ lw_tbl := List.mem_of_getElem? (i := 539) (by decide +kernel)
theorem ts9 : Cond.stringRef RX2 102 "bump" ∈ lw_tbl := List.mem_of_getElem? (i := 540) (by decide +kernel)
theorem ts10 : Cond.stringRef RX2 104 "narrow" ∈ lw_tbl := List.mem_of_getElem? (i := 541) (by decide +kernel)
theorem ts11 : Cond.stringRef RX2 106 "sign" ∈ lw_tbl := List.mem_of_getElem? (i := 542) (by decide +kernel)
theorem ts12 : Cond.stringRef RX2 108 "paint" ∈ lw_tbl := List.mem_of_getElem? (i := 543) (by decide +kernel)
theorem ts13 : Cond.stringRef RX2 49 "high" ∈ lw_tbl := List.mem_of_getElem? (i := 549) (by decide +kernel)
theorem tl1 : Cond.laysStatic RJ0 "COMPACT_STRINGS" "Z" ∈ lw_tbl := List.mem_of_getElem? (i := 480) (by decide +kernel)
theorem tl2 : Cond.laysStatic RJ3 "SIOOBE_FORMATTER" "Ljava/util/function/BiFunction;" ∈ lw_tbl := List.mem_of_getElem? (i := 496) (by decide +kernel)
theorem tl3 : Cond.methodLinkNest RX3 43 yX4_placeOf RX4 ∈ lw_tbl := List.mem_of_getElem? (i := 206) (by decide +kernel)
theorem tl4 : Cond.arrayOver (.object RX1) ∈ lw_tbl := List.mem_of_getElem? (i := 137) (by decide +kernel)
