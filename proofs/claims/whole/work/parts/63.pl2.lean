theorem c_noPlace {per : Int32} {inf los : Nat → Int32} {N : Nat} {fl lo : Nat → Nat} (h : CW per inf los N fl lo) (p : Int32) : f_Ba_hasNoPlace per p = some (if 0 ≤ p ∧ p ≤ nI (N - 1) then 0 else 1) := by
  obtain ⟨n1, n2, eN, hf, -⟩ := id h
  have eP : (if (12 : Int32) < nI N then (12 : Int32) else nI N) = nI N := if_neg (Int32.not_lt.mpr (nI_le (b := 12) n2 (by decide)))
  have eM : nI N - (1 : Int32) = nI (N - 1) := z_sub (b := 1) n1
  rw [f_Ba_hasNoPlace, eN, eP, eM, isOut]
  by_cases hp : 0 ≤ p ∧ p ≤ nI (N - 1)
  · rw [if_pos hp]; rfl
  · rw [if_neg hp]; rfl
theorem m_isPer {r : Nat → Int32} {N : Nat} {fl lo : Nat → Nat} (h : MW r N fl lo) (p : Int32) : f_Mo_isPeriod r p = some (if 0 ≤ p ∧ p ≤ nI (N - 1) then 1 else 0) := by
  obtain ⟨n1, n2, eN, hf, -⟩ := id h
  have eM : nI N - (1 : Int32) = nI (N - 1) := z_sub (b := 1) n1
  rw [f_Mo_isPeriod, if_neg (by decide), show (0 : Int32).toNatClampNeg = 0 from rfl, eN, eM, mIn]
  by_cases hp : 0 ≤ p ∧ p ≤ nI (N - 1)
  · rw [if_pos hp]; rfl
  · rw [if_neg hp]; rfl
theorem pl_loss (X : Nat → Int32) (Y ri rl rf : Nat → Nat → Int32) (im : Nat → Option Nat) (vi vl vf : Nat → Nat → Int32) (U : Nat → Int32) (V : Nat → Nat → Int32) (Z : Nat → Int64) (p0 : Int32) (h : Rel X Y ri rl rf im vi vl vf U V Z) : ∃ (out : Int32) (mout : Int32), f_Ye_loss (Y 1) p0 = some out ∧ f_Mo_loss (V 0) p0 = some mout ∧ out = mout ∧ Rel X Y ri rl rf im vi vl vf U V Z := by
  have h0 := h
  obtain ⟨⟨hB, hV⟩, -⟩ := h
  obtain ⟨N, fl, lo, D, K, T, v, hM, hW⟩ := hV.out
  have hC := hB.cw hM
  by_cases hp : 0 ≤ p0 ∧ p0 ≤ 999
  · obtain ⟨w, hw, rfl⟩ := nI_rng 999 (by decide) hp
    refine ⟨nI (lo (w / 100)), nI (lo (w / 100)), ?_, ?_, rfl, h0⟩
    · rw [f_Ye_loss, isOut, if_pos hp, z_obs, if_pos rfl, c_loss hC hw]; rfl
    · rw [f_Mo_loss, mIn, if_pos hp, z_obs, if_neg (by decide), m_loss hM hw]; rfl
  · refine ⟨-1, -1, ?_, ?_, rfl, h0⟩
    · rw [f_Ye_loss, isOut, if_neg hp]; rfl
    · rw [f_Mo_loss, mIn, if_neg hp]; rfl
theorem pl_inflow (X : Nat → Int32) (Y ri rl rf : Nat → Nat → Int32) (im : Nat → Option Nat) (vi vl vf : Nat → Nat → Int32) (U : Nat → Int32) (V : Nat → Nat → Int32) (Z : Nat → Int64) (p0 : Int32) (h : Rel X Y ri rl rf im vi vl vf U V Z) : ∃ (out : Int32) (mout : Int32), f_Ye_inflow (X 0) (Y 0) p0 = some out ∧ f_Mo_inflow (V 0) p0 = some mout ∧ out = mout ∧ Rel X Y ri rl rf im vi vl vf U V Z := by
  have h0 := h
  obtain ⟨⟨hB, hV⟩, -⟩ := h
  obtain ⟨N, fl, lo, D, K, T, v, hM, hW⟩ := hV.out
  have hC := hB.cw hM
  obtain ⟨n1, n2, eN, hf, -⟩ := id hC
  obtain ⟨-, -, eR, hfr, -⟩ := id hM
  by_cases hp : 0 ≤ p0 ∧ p0 ≤ nI (N - 1)
  · obtain ⟨w, hw, rfl⟩ := nI_rng (N - 1) (by omega) hp
    have hw12 : w < 12 := by omega
    have e1 : (1 : Int32) + nI w = nI (1 + w) := nI_add 1 w
    refine ⟨nI (fl w), nI (fl w), ?_, ?_, rfl, h0⟩
    · rw [f_Ye_inflow, c_noPlace hC, if_pos hp, z_obs, if_pos rfl, c_inflow hC (by omega), Nat.mod_eq_of_lt (by omega)]; rfl
    · rw [f_Mo_inflow, m_isPer hM, if_pos hp, z_obs, if_neg (by decide), e1, if_neg (ixn (by omega) (by omega)), nI_clamp (by omega), (hfr w hw12).2]
  · refine ⟨-1, -1, ?_, ?_, rfl, h0⟩
    · rw [f_Ye_inflow, c_noPlace hC, if_neg hp]; rfl
    · rw [f_Mo_inflow, m_isPer hM, if_neg hp]; rfl
