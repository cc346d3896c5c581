section LP
variable {p : Program} {l : Launch} {e : Env} {s : State} {m : MethodId} {below : List Frame} {meth : Method} {c : Code} {b L : Nat} {xs : Nat → Int32} {ac am : Nat → Nat} {D : va_G} {yc ym : Nat → ClassId} {kc ks : Nat}
def ltg : List Nat := [204, 247, 290, 313, 346, 369, 392, 425, 468, 501, 534, 577, 620, 653, 686, 709, 742, 775, 798, 831, 864, 897, 930, 973, 996, 1009, 1042, 1055, 1068, 1111, 1185, 1248, 1281, 1324, 1367, 1380, 1393, 1406, 1429]
theorem l_offs : ∀ v, v < 39 → (#[171, 214, 257, 280, 313, 336, 359, 392, 435, 468, 501, 544, 587, 620, 653, 676, 709, 742, 765, 798, 831, 864, 897, 940, 963, 976, 1009, 1022, 1035, 1078, 1152, 1215, 1248, 1291, 1334, 1347, 1360, 1373, 1396] : Array Int)[v]? = some ((ltg.getD v 0 : Int) - 33) := by decide +kernel
theorem l_all {i : Nat} {σ τ : xH} {S : St} (B : lB p s m meth c b L xs ac am D yc ym kc ks) (h6 : i + 6 ≤ L) (hS : cS σ S) (hM : mS τ S) (hO : sOk S) (hk : ∀ σ τ S, cS σ S → mS τ S → sOk S → Lw p l e s m below meth c b ac am D yc ym kc ks 1452 i [] σ τ) : ∀ v, v < 39 → Lw p l e s m below meth c b ac am D yc ym kc ks (ltg.getD v 0) i [] σ τ := by
  intro v hv
  match v, hv with
  | 0, _ => exact law_thing B h6 hS hM hO hk
  | 1, _ => exact law_stretch B h6 hS hM hO hk
  | 2, _ => exact law_high B h6 hS hM hO hk
  | 3, _ => exact law_street B h6 hS hM hO hk
  | 4, _ => exact law_now B h6 hS hM hO hk
  | 5, _ => exact law_driver B h6 hS hM hO hk
  | 6, _ => exact law_of B h6 hS hM hO hk
  | 7, _ => exact law_set B h6 hS hM hO hk
  | 8, _ => exact law_turn B h6 hS hM hO hk
  | 9, _ => exact law_as B h6 hS hM hO hk
  | 10, _ => exact law_slows B h6 hS hM hO hk
  | 11, _ => exact law_quick B h6 hS hM hO hk
  | 12, _ => exact law_takes B h6 hS hM hO hk
  | 13, _ => exact law_shaken B h6 hS hM hO hk
  | 14, _ => exact law_days B h6 hS hM hO hk
  | 15, _ => exact law_on B h6 hS hM hO hk
  | 16, _ => exact law_then B h6 hS hM hO hk
  | 17, _ => exact law_leaves B h6 hS hM hO hk
  | 18, _ => exact law_tame B h6 hS hM hO hk
  | 19, _ => exact law_clear B h6 hS hM hO hk
  | 20, _ => exact law_lower B h6 hS hM hO hk
  | 21, _ => exact law_kind B h6 hS hM hO hk
  | 22, _ => exact law_wish B h6 hS hM hO hk
  | 23, _ => exact law_drives B h6 hS hM hO hk
  | 24, _ => exact law_slowest B h6 hS hM hO hk
  | 25, _ => exact law_feed B h6 hS hM hO hk
  | 26, _ => exact law_wipe B h6 hS hM hO hk
  | 27, _ => exact law_town B h6 hS hM hO hk
  | 28, _ => exact law_sheet B h6 hS hM hO hk
  | 29, _ => exact law_write B h6 hS hM hO hk
  | 30, _ => exact law_copy B h6 hS hM hO hk
  | 31, _ => exact law_lays B h6 hS hM hO hk
  | 32, _ => exact law_book B h6 hS hM hO hk
  | 33, _ => exact law_read B h6 hS hM hO hk
  | 34, _ => exact law_image B h6 hS hM hO hk
  | 35, _ => exact law_undo B h6 hS hM hO hk
  | 36, _ => exact law_tear B h6 hS hM hO hk
  | 37, _ => exact law_count B h6 hS hM hO hk
  | 38, _ => exact law_status B h6 hS hM hO hk
  | v + 39, hv => exact absurd hv (by omega)
theorem l_cmp {L i : Nat} (hL : L < 2 ^ 30) (hi : i < 2 ^ 30) : Int32.ofNat L - nI 6 < nI i ↔ L < i + 6 := by
  show nI L - nI 6 < nI i ↔ L < i + 6
  rw [Int32.lt_iff_toInt_lt, pk_sub_toInt hL (by omega), nI_toInt (by omega)]
  omega
theorem l_exit {i : Nat} {σ τ : xH} (B : lB p s m meth c b L xs ac am D yc ym kc ks) (h : L < i + 6) (hi : i < 2 ^ 30) : Lw p l e s m below meth c b ac am D yc ym kc ks 18 i [] σ τ := by
  intro H locs ls hP hPM hD hDM hS hl
  obtain ⟨⟨hx, hb, hr, hml, hown, hts0, hX, hbl, hlocks, hgv⟩, hKC, hKM, hEC, hEM, hap, hL, hk1, hk2⟩ := id B
  refine lv_iload_n hx hb dL_law_18 rfl (lv_at hl 3 rfl) ?_
  refine lv_aload_n hx hb dL_law_19 rfl (lv_at hl 0 rfl) ?_
  refine va_slen hx hb hX hbl (Nat.not_le.mpr hbl) hS dL_law_20 ?_
  refine lv_bipush (v := nI 6) hx hb dL_law_21 (by decide) ?_
  refine lv_isub hx hb dL_law_23 ?_
  refine lv_icmp_gt (tgt := 1458) hx hb dL_law_24 rfl (fun _ => ?_) (fun z => absurd ((l_cmp (by omega) hi).mpr h) z)
  refine lv_iconst (v := 1) hx hb dL_law_1458 (by decide) ?_
  refine va_forget (fun q hq => hS.2.2 q hq) ?_
  refine W.widen (k := 600000) (n := 7302250) hk1 hk2 ?_
  exact lw_ret hx hb hr hlocks dL_law_1459
theorem l_next {i : Nat} {σ τ : xH} (B : lB p s m meth c b L xs ac am D yc ym kc ks) (k : Lw p l e s m below meth c b ac am D yc ym kc ks 18 (i + 6) [] σ τ) : Lw p l e s m below meth c b ac am D yc ym kc ks 1452 i [] σ τ := by
  intro H locs ls hP hPM hD hDM hS hl
  obtain ⟨⟨hx, hb, hr, hml, hown, hts0, hX, hbl, hlocks, hgv⟩, hKC, hKM, hEC, hEM, hap, hL, hk1, hk2⟩ := id B
  refine lv_iinc (v := nI (i + 6)) (lv' := [(3, .int (nI (i + 6))), (0, .ref b), (1, .ref (ac 0)), (2, .ref (am 0))]) hx hb dL_law_1452 hl (k := 3) rfl (by rw [← nI_add]; rfl) (by decide) rfl (fun ls hl => ?_)
  refine lv_goto (tgt := 18) hx hb dL_law_1455 rfl ?_
  exact k H locs ls hP hPM hD hDM hS (lv_sub hl [1, 2, 3, 0] rfl)
theorem l_body {i : Nat} {σ τ : xH} {S : St} (B : lB p s m meth c b L xs ac am D yc ym kc ks) (h6 : i + 6 ≤ L) (hC : cS σ S) (hM : mS τ S) (hO : sOk S) (hk : ∀ σ τ S, cS σ S → mS τ S → sOk S → Lw p l e s m below meth c b ac am D yc ym kc ks 1452 i [] σ τ) : Lw p l e s m below meth c b ac am D yc ym kc ks 18 i [] σ τ := by
  intro H locs ls hP hPM hD hDM hS hl
  obtain ⟨⟨hx, hb, hr, hml, hown, hts0, hX, hbl, hlocks, hgv⟩, hKC, hKM, hEC, hEM, hap, hL, hk1, hk2⟩ := id B
  refine lv_iload_n hx hb dL_law_18 rfl (lv_at hl 3 rfl) ?_
  refine lv_aload_n hx hb dL_law_19 rfl (lv_at hl 0 rfl) ?_
  refine va_slen hx hb hX hbl (Nat.not_le.mpr hbl) hS dL_law_20 ?_
  refine lv_bipush (v := nI 6) hx hb dL_law_21 (by decide) ?_
  refine lv_isub hx hb dL_law_23 ?_
  refine lv_icmp_gt (tgt := 1458) hx hb dL_law_24 rfl (fun z => absurd ((l_cmp (by omega) (by omega)).mp z) (by omega)) (fun _ => ?_)
  refine lv_aload_n hx hb dL_law_27 rfl (lv_at hl 0 rfl) ?_
  refine lv_iload_n hx hb dL_law_28 rfl (lv_at hl 3 rfl) ?_
  refine va_sld hx hb hX hbl (Nat.not_le.mpr hbl) hS (vp_in_nI (by omega) (by omega)) dL_law_29 ?_
  refine lv_bipush (v := 63) hx hb dL_law_30 (by decide) ?_
  refine lv_iand hx hb dL_law_32 ?_
  refine lv_topi (fun x _ => ?_)
  by_cases h1 : 0 ≤ x.toInt ∧ x.toInt ≤ 38
  · refine lv_tableIn (tgt := ltg.getD x.toInt.toNat 0) (off := (ltg.getD x.toInt.toNat 0 : Int) - 33) hx hb dL_law_33 (by omega) (by omega) (by rw [show x.toInt - 0 = x.toInt by omega]; exact l_offs _ (by omega)) (by omega) ?_
    exact l_all B h6 hC hM hO hk _ (by omega) H locs ls hP hPM hD hDM hS hl
  · refine lv_tableOut (tgt := 1452) hx hb dL_law_33 (by omega) rfl ?_
    exact hk σ τ S hC hM hO H locs ls hP hPM hD hDM hS hl
theorem law_loop (B : lB p s m meth c b L xs ac am D yc ym kc ks) : ∀ (n i : Nat) (σ τ : xH) (S : St), L < i + 6 * n → i ≤ L + 6 → cS σ S → mS τ S → sOk S → Lw p l e s m below meth c b ac am D yc ym kc ks 18 i [] σ τ := by
  have hL : L ≤ 3072 := B.2.2.2.2.2.2.1
  intro n
  induction n with
  | zero => intro i σ τ S hn hi hC hM hO; exact l_exit B (by omega) (by omega)
  | succ n ih =>
    intro i σ τ S hn hi hC hM hO
    by_cases h6 : i + 6 ≤ L
    · exact l_body B h6 hC hM hO (fun σ τ S hC hM hO => l_next B (ih (i + 6) σ τ S (by omega) (by omega) hC hM hO))
    · exact l_exit B (by omega) (by omega)
end LP
theorem xw_len (Ω : xW) (σ : xH) : (xw Ω σ).length = (xsh Ω).length := by
  unfold xw
  rw [List.length_mapIdx]
