section
variable {l : Launch} {ad : Nat → Nat} {D : va_G} {cy : Nat → ClassId}
def pTn (b : Nat → Int32) (L : Nat) (T : Tw) : Int32 × Tw := pAll b L 120 (tSt b L 0) T 1
def oTown (S : St) : Int32 × St := if (pTn (gB S) (gL S) (gT S)).1 < 0 then ((pTn (gB S) (gL S) (gT S)).1, pTape S 0 (gB S)) else ((pTn (gB S) (gL S) (gT S)).1, pTape (pT S (pTn (gB S) (gL S) (gT S)).2) 0 (gB S))
set_option maxHeartbeats 4000000 in
set_option maxRecDepth 20000 in
theorem c_X2_tellInto {σ : xH} {K : Int32 → xH → Prop} {b : Nat → Int32} {L : Nat} {T : Tw} (hp : tp σ b L) (hw : tw σ 13 T) (hk : ∀ τ, tw τ 13 (pTn b L T).2 → fp σ τ → K (pTn b L T).1 τ) : Evi l (oC ad D cy) mX2_tellInto [.ref 19, .ref 13] σ K := by
  refine x_enter (ls := [some (.ref 19), some (.ref 13), none]) rfl ?_
  refine x_aload_n (i := 0) dX2_tellInto_0 rfl rfl ?_
  refine x_iconstN (n := 0) dX2_tellInto_1 ?_
  refine x_puti (i := 4) (ty := .int) dX2_tellInto_2 rfl rfl rfl (by decide) fl_X2_19 inX2 tyX2_ok nmX2 rfl rfl rfl rfl ?_
  refine x_aload_n (i := 0) dX2_tellInto_5 rfl rfl ?_
  refine x_v0v dX2_tellInto_6 okX2_nextToken ml_X2_22 rfl rfl (Nat.le_of_ble_eq_true rfl) ⟨by decide, by decide⟩ (Nat.le_of_ble_eq_true rfl) (c_X2_nextToken (e := 0) (tp_ff hp (ff_p (k := 2) (j := 4) (by omega)) (by omega)) (Nat.zero_le _) xp_s (fun τ1 hT1 hf1 => ?_))
  refine x_iconstN (n := 1) dX2_tellInto_9 ?_
  refine y_istore_n (i := 2) (ls2 := [_, _, _]) dX2_tellInto_10 rfl (by decide) rfl rfl ?_
  have hf2 : ff 2 σ τ1 := ff_tr (ff_p (j := 4) (by omega)) hf1
  exact l_X2_tellInto 120 _ 1 T τ1 rfl ⟨tp_ff hp hf2 (by omega), hT1, tw_ff hw hf2, (tSt_le (Nat.zero_le _)).2⟩ (ff_fp hf2) hk
end
