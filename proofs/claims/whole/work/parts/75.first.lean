def T0 : Tw := (0, nI 3, 0, fun _ => 0, fun _ => 0, fun _ => 0, fun _ => 0, fun _ => 0)
def S0 : St := (T0, none, 0, fun _ => 0, fun _ => 0, fun _ => 0, fun _ _ => 0, fun _ => 0)
theorem cS_0 : cS s0C S0 := by
  refine ⟨⟨rfl, rfl, rfl, fun i _ => rfl, fun i _ => rfl, fun d hd => absurd hd (Nat.not_lt_zero _), fun d hd => absurd hd (Nat.not_lt_zero _), fun d hd => absurd hd (Nat.not_lt_zero _), Nat.zero_le _, fun d hd => absurd hd (Nat.not_lt_zero _)⟩, (xb_f (by decide)).symm, (fun U h => by cases h), rfl, fun i hi => absurd hi (Nat.not_lt_zero _), Nat.zero_le _, fun j hj => ?_, fun i hi => rfl⟩
  match j, hj with
  | 0, _ => exact ⟨rfl, rfl, fun _ _ => rfl, Nat.zero_le _⟩
  | 1, _ => exact ⟨rfl, rfl, fun _ _ => rfl, Nat.zero_le _⟩
  | 2, _ => exact ⟨rfl, rfl, fun _ _ => rfl, Nat.zero_le _⟩
  | 3, _ => exact ⟨rfl, rfl, fun _ _ => rfl, Nat.zero_le _⟩
  | j + 4, hj => exact absurd hj (by omega)
theorem tOk_0 : tOk T0 := ⟨Nat.zero_le _, fun d hd => absurd hd (Nat.not_lt_zero _), fun d hd => absurd hd (Nat.not_lt_zero _), fun i hi => ⟨0, by omega, rfl⟩, fun i hi => ⟨0, by omega, rfl, fun _ => rfl⟩, ⟨3, by omega, by omega, rfl⟩, trivial, fun d hd => absurd hd (Nat.not_lt_zero _)⟩
theorem sOk_0 : sOk S0 := ⟨tOk_0, fun U h => by cases h⟩
theorem mS_0 : mS s0M S0 := by
  refine ⟨⟨rfl, rfl, rfl, fun i _ => if_neg (by omega), fun i _ => if_neg (by omega), fun d hd => absurd hd (Nat.not_lt_zero _), fun d hd => absurd hd (Nat.not_lt_zero _), fun d hd => absurd hd (Nat.not_lt_zero _), Nat.zero_le _, fun d hd => absurd hd (Nat.not_lt_zero _)⟩, (xb_f (by decide)).symm, (fun U h => by cases h), rfl, fun i hi => absurd hi (Nat.not_lt_zero _), Nat.zero_le _, fun j hj => ⟨rfl, rfl, fun _ _ => rfl, Nat.zero_le _⟩, fun i hi => rfl, fun i hi => if_pos hi, fun i hi => if_pos hi, fun i hi => if_pos hi⟩
