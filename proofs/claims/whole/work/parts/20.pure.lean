def f_Ye_isOutside (p0 : Int32) (p1 : Int32) (p2 : Int32) : Option (Int32) :=
  if p0 < p1 then some ((1 : Int32)) else if p0 ≤ p2 then some ((0 : Int32)) else some ((1 : Int32))
def f_Ba_becomeAsAtFirst_L23  : Nat → Int32 → (Nat → Int32) → Option (Int32 × (Nat → Int32))
  | 0, _, _ => none
  | n + 1, i1_23, z_losses_23 => if (10 : Int32) ≤ i1_23 then some (i1_23, z_losses_23) else if i1_23 < 0 ∨ 10 ≤ i1_23.toNatClampNeg then none else f_Ba_becomeAsAtFirst_L23 n (i1_23 + (1 : Int32)) (upd z_losses_23 i1_23.toNatClampNeg (0 : Int32))
theorem f_Ba_becomeAsAtFirst_L23_z  (i1_23 : Int32) (z_losses_23 : Nat → Int32) : f_Ba_becomeAsAtFirst_L23 0 i1_23 z_losses_23 = none := rfl
theorem f_Ba_becomeAsAtFirst_L23_s  (n : Nat) (i1_23 : Int32) (z_losses_23 : Nat → Int32) : f_Ba_becomeAsAtFirst_L23 (n + 1) i1_23 z_losses_23 = (if (10 : Int32) ≤ i1_23 then some (i1_23, z_losses_23) else if i1_23 < 0 ∨ 10 ≤ i1_23.toNatClampNeg then none else f_Ba_becomeAsAtFirst_L23 n (i1_23 + (1 : Int32)) (upd z_losses_23 i1_23.toNatClampNeg (0 : Int32))) := rfl
def f_Ba_becomeAsAtFirst_L2  : Nat → Int32 → (Nat → Int32) → Option (Int32 × (Nat → Int32))
  | 0, _, _ => none
  | n + 1, i1_2, z_inflows_2 => if (12 : Int32) ≤ i1_2 then some (i1_2, z_inflows_2) else if i1_2 < 0 ∨ 12 ≤ i1_2.toNatClampNeg then none else f_Ba_becomeAsAtFirst_L2 n (i1_2 + (1 : Int32)) (upd z_inflows_2 i1_2.toNatClampNeg (0 : Int32))
theorem f_Ba_becomeAsAtFirst_L2_z  (i1_2 : Int32) (z_inflows_2 : Nat → Int32) : f_Ba_becomeAsAtFirst_L2 0 i1_2 z_inflows_2 = none := rfl
theorem f_Ba_becomeAsAtFirst_L2_s  (n : Nat) (i1_2 : Int32) (z_inflows_2 : Nat → Int32) : f_Ba_becomeAsAtFirst_L2 (n + 1) i1_2 z_inflows_2 = (if (12 : Int32) ≤ i1_2 then some (i1_2, z_inflows_2) else if i1_2 < 0 ∨ 12 ≤ i1_2.toNatClampNeg then none else f_Ba_becomeAsAtFirst_L2 n (i1_2 + (1 : Int32)) (upd z_inflows_2 i1_2.toNatClampNeg (0 : Int32))) := rfl
def f_Ba_becomeAsAtFirst (z_inflows : Nat → Int32) (z_losses : Nat → Int32) : Option (Int32 × Int32 × Int32 × Int32 × Int32 × Int32 × Int32 × Int32 × (Nat → Int32) × (Nat → Int32)) :=
  Option.bind (f_Ba_becomeAsAtFirst_L2 FU (0 : Int32) z_inflows) (fun z4 => Option.bind (f_Ba_becomeAsAtFirst_L23 FU (0 : Int32) z_losses) (fun z8 => some ((1 : Int32), (0 : Int32), (0 : Int32), (0 : Int32), (0 : Int32), (0 : Int32), (0 : Int32), (0 : Int32), z4.2, z8.2)))
def f_Ba_addInflow (z_periods : Int32) (z_inflows : Nat → Int32) (p0 : Int32) (p1 : Int32) : Option (Int32 × (Nat → Int32)) :=
  Option.bind (f_Ye_isOutside p0 (0 : Int32) (11 : Int32)) (fun z1 => if z1 = 0 then if p0 < 0 ∨ 12 ≤ p0.toNatClampNeg then none else some ((p0 + (1 : Int32)), (upd z_inflows p0.toNatClampNeg p1)) else some (z_periods, z_inflows))
def f_Ba_changeLoss (z_losses : Nat → Int32) (p0 : Int32) (p1 : Int32) : Option ((Nat → Int32)) :=
  Option.bind (f_Ye_isOutside p0 (0 : Int32) (9 : Int32)) (fun z1 => if z1 = 0 then if p0 < 0 ∨ 10 ≤ p0.toNatClampNeg then none else some ((upd z_losses p0.toNatClampNeg p1)) else some (z_losses))
def f_Ba_copyFrom (z_inflows : Nat → Int32) (z_losses : Nat → Int32) (o0_periods : Int32) (o0_draft : Int32) (o0_cap : Int32) (o0_time : Int32) (o0_volume : Int32) (o0_fails : Int32) (o0_lacking : Int32) (o0_spilt : Int32) (o0_inflows : Nat → Int32) (o0_losses : Nat → Int32) : Option (Int32 × Int32 × Int32 × Int32 × Int32 × Int32 × Int32 × Int32 × (Nat → Int32) × (Nat → Int32)) :=
  some (o0_periods, o0_draft, o0_cap, o0_time, o0_volume, o0_fails, o0_lacking, o0_spilt, (va_cpy o0_inflows z_inflows (0 : Int32).toNatClampNeg (0 : Int32).toNatClampNeg (12 : Int32).toNatClampNeg), (va_cpy o0_losses z_losses (0 : Int32).toNatClampNeg (0 : Int32).toNatClampNeg (10 : Int32).toNatClampNeg))
def f_Ba_inflowOf (z_periods : Int32) (z_inflows : Nat → Int32) (p0 : Int32) : Option (Int32) :=
  if p0 < 0 then some ((0 : Int32)) else Option.bind (f_Ye_isOutside z_periods (1 : Int32) (12 : Int32)) (fun z2 => if z2 = 0 then if z_periods = 0 then none else if (p0 - p0 / z_periods * z_periods) < 0 ∨ 12 ≤ (p0 - p0 / z_periods * z_periods).toNatClampNeg then none else some ((z_inflows (p0 - p0 / z_periods * z_periods).toNatClampNeg)) else some ((0 : Int32)))
def f_Ba_lossOf (z_losses : Nat → Int32) (p0 : Int32) : Option (Int32) :=
  Option.bind (f_Ye_isOutside (p0 / (100 : Int32)) (0 : Int32) (9 : Int32)) (fun z1 => if z1 = 0 then if (p0 / (100 : Int32)) < 0 ∨ 10 ≤ (p0 / (100 : Int32)).toNatClampNeg then none else some ((z_losses (p0 / (100 : Int32)).toNatClampNeg)) else some ((0 : Int32)))
def f_Ba_levelWith (z_losses : Nat → Int32) (p0 : Int32) (p1 : Int32) (p2 : Int32) : Option (Int32) :=
  Option.bind (f_Ba_lossOf z_losses p1) (fun z1 => some ((((p1 + p0) - z1) - p2)))
def f_Ba_levelBehind (z_periods : Int32) (z_inflows : Nat → Int32) (z_losses : Nat → Int32) (p0 : Int32) (p1 : Int32) (p2 : Int32) : Option (Int32) :=
  Option.bind (f_Ba_inflowOf z_periods z_inflows p0) (fun z1 => Option.bind (f_Ba_levelWith z_losses z1 p1 p2) (fun z2 => some (z2)))
def f_Ba_held (p0 : Int32) (p1 : Int32) : Option (Int32) :=
  some ((if (0 : Int32) < (if p1 < p0 then p1 else p0) then (if p1 < p0 then p1 else p0) else (0 : Int32)))
def f_Ba_pass (z_periods : Int32) (z_draft : Int32) (z_cap : Int32) (z_time : Int32) (z_volume : Int32) (z_fails : Int32) (z_lacking : Int32) (z_spilt : Int32) (z_inflows : Nat → Int32) (z_losses : Nat → Int32) : Option (Int32 × Int32 × Int32 × Int32 × Int32) :=
  Option.bind (f_Ba_levelBehind z_periods z_inflows z_losses z_time z_volume z_draft) (fun z1 => if 0 ≤ z1 then if z1 ≤ z_cap then Option.bind (f_Ba_held z1 z_cap) (fun z4 => some ((z_time + (1 : Int32)), z4, z_fails, z_lacking, z_spilt)) else Option.bind (f_Ba_held z1 z_cap) (fun z5 => some ((z_time + (1 : Int32)), z5, z_fails, z_lacking, (z_spilt + (z1 - z_cap)))) else if z1 ≤ z_cap then Option.bind (f_Ba_held z1 z_cap) (fun z7 => some ((z_time + (1 : Int32)), z7, (z_fails + (1 : Int32)), (z_lacking - z1), z_spilt)) else Option.bind (f_Ba_held z1 z_cap) (fun z8 => some ((z_time + (1 : Int32)), z8, (z_fails + (1 : Int32)), (z_lacking - z1), (z_spilt + (z1 - z_cap)))))
def f_Ba_changeCap (z_volume : Int32) (z_spilt : Int32) (p0 : Int32) : Option (Int32 × Int32 × Int32) :=
  if z_volume ≤ p0 then some (p0, z_volume, z_spilt) else some (p0, p0, (z_spilt + (z_volume - p0)))
def f_Ba_hasNoPlace (z_periods : Int32) (p0 : Int32) : Option (Int32) :=
  Option.bind (f_Ye_isOutside p0 (0 : Int32) ((if (12 : Int32) < z_periods then (12 : Int32) else z_periods) - (1 : Int32))) (fun z1 => if ¬ (z1 = 0 ∨ z1 = 1) then none else some (z1))
def f_Ba_changeInflow (z_periods : Int32) (z_inflows : Nat → Int32) (p0 : Int32) (p1 : Int32) : Option ((Nat → Int32)) :=
  Option.bind (f_Ba_hasNoPlace z_periods p0) (fun z1 => if z1 = 0 then if p0 < 0 ∨ 12 ≤ p0.toNatClampNeg then none else some ((upd z_inflows p0.toNatClampNeg p1)) else some (z_inflows))
def f_Fr_become (p0 : Int32) (p1 : Int32) : Option (Int32 × Int32) :=
  some (p0, (if (1 : Int32) < p1 then p1 else (1 : Int32)))
def f_Fr_lowerTo (z_upper : Int32) (z_lower : Int32) (p0 : Int32) (p1 : Int32) : Option (Int32 × Int32) :=
  if 0 ≤ (lg_cmp ((p0.toInt64) * (z_lower.toInt64)) ((z_upper.toInt64) * (p1.toInt64))) then some (z_upper, z_lower) else Option.bind (f_Fr_become p0 p1) (fun z2 => some (z2.1, z2.2))
def f_Fr_greatestDivisor_L7  : Nat → Int32 → Int32 → Int32 → Option (Int32 × Int32 × Int32)
  | 0, _, _, _ => none
  | n + 1, i2_7, i3_7, i4_7 => if (100 : Int32) ≤ i4_7 then some (i2_7, i3_7, i4_7) else if i3_7 ≤ 0 then some (i2_7, i3_7, i4_7) else if i3_7 = 0 then none else f_Fr_greatestDivisor_L7 n i3_7 (i2_7 - i2_7 / i3_7 * i3_7) (i4_7 + (1 : Int32))
theorem f_Fr_greatestDivisor_L7_z  (i2_7 : Int32) (i3_7 : Int32) (i4_7 : Int32) : f_Fr_greatestDivisor_L7 0 i2_7 i3_7 i4_7 = none := rfl
theorem f_Fr_greatestDivisor_L7_s  (n : Nat) (i2_7 : Int32) (i3_7 : Int32) (i4_7 : Int32) : f_Fr_greatestDivisor_L7 (n + 1) i2_7 i3_7 i4_7 = (if (100 : Int32) ≤ i4_7 then some (i2_7, i3_7, i4_7) else if i3_7 ≤ 0 then some (i2_7, i3_7, i4_7) else if i3_7 = 0 then none else f_Fr_greatestDivisor_L7 n i3_7 (i2_7 - i2_7 / i3_7 * i3_7) (i4_7 + (1 : Int32))) := rfl
def f_Fr_greatestDivisor (p0 : Int32) (p1 : Int32) : Option (Int32) :=
  Option.bind (f_Fr_greatestDivisor_L7 FU p0 p1 (0 : Int32)) (fun z4 => some (z4.1))
def f_Fr_part (z_upper : Int32) (z_lower : Int32) (p0 : Int32) : Option (Int32) :=
  Option.bind (f_Fr_greatestDivisor z_upper z_lower) (fun z1 => if p0 = 0 then if (if (1 : Int32) < z1 then z1 else (1 : Int32)) = 0 then none else some ((z_upper / (if (1 : Int32) < z1 then z1 else (1 : Int32)))) else if (if (1 : Int32) < z1 then z1 else (1 : Int32)) = 0 then none else some ((z_lower / (if (1 : Int32) < z1 then z1 else (1 : Int32)))))
def f_Fr_raiseTo (z_upper : Int32) (z_lower : Int32) (p0 : Int32) (p1 : Int32) : Option (Int32 × Int32) :=
  if (lg_cmp ((p0.toInt64) * (z_lower.toInt64)) ((z_upper.toInt64) * (p1.toInt64))) ≤ 0 then some (z_upper, z_lower) else Option.bind (f_Fr_become p0 p1) (fun z2 => some (z2.1, z2.2))
def f_Fr_isBelow (z_upper : Int32) (z_lower : Int32) (o0_upper : Int32) (o0_lower : Int32) : Option (Int32) :=
  if 0 ≤ (lg_cmp ((z_upper.toInt64) * (o0_lower.toInt64)) ((o0_upper.toInt64) * (z_lower.toInt64))) then some ((0 : Int32)) else some ((1 : Int32))
def f_Ba_total_L4 (z_periods : Int32) (z_inflows : Nat → Int32) : Nat → Int32 → Int32 → Option (Int32 × Int32)
  | 0, _, _ => none
  | n + 1, i1_4, i2_4 => if z_periods ≤ i2_4 then some (i1_4, i2_4) else Option.bind (f_Ba_inflowOf z_periods z_inflows i2_4) (fun z6 => f_Ba_total_L4 z_periods z_inflows n (i1_4 + z6) (i2_4 + (1 : Int32)))
theorem f_Ba_total_L4_z (z_periods : Int32) (z_inflows : Nat → Int32) (i1_4 : Int32) (i2_4 : Int32) : f_Ba_total_L4 z_periods z_inflows 0 i1_4 i2_4 = none := rfl
theorem f_Ba_total_L4_s (z_periods : Int32) (z_inflows : Nat → Int32) (n : Nat) (i1_4 : Int32) (i2_4 : Int32) : f_Ba_total_L4 z_periods z_inflows (n + 1) i1_4 i2_4 = (if z_periods ≤ i2_4 then some (i1_4, i2_4) else Option.bind (f_Ba_inflowOf z_periods z_inflows i2_4) (fun z6 => f_Ba_total_L4 z_periods z_inflows n (i1_4 + z6) (i2_4 + (1 : Int32)))) := rfl
def f_Ba_total (z_periods : Int32) (z_inflows : Nat → Int32) : Option (Int32) :=
  Option.bind (f_Ba_total_L4 z_periods z_inflows FU (0 : Int32) (0 : Int32)) (fun z4 => some (z4.1))
