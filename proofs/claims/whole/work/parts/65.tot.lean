/-! ===== all inflows together ===== -/
def sma (f : Nat → Nat) : Nat → Nat
  | 0 => 0
  | n + 1 => sma f n + f n
theorem sma_le {f : Nat → Nat} {c : Nat} : ∀ n, (∀ i, i < n → f i ≤ c) → sma f n ≤ n * c
  | 0, _ => by simp [sma]
  | n + 1, h => by
    have h1 := sma_le n (fun i hi => h i (by omega))
    have h2 := h n (by omega)
    rw [sma, Nat.succ_mul]
    omega
section TOT
variable {per : Int32} {inf los r : Nat → Int32} {N : Nat} {fl lo : Nat → Nat}
theorem c_tot_L (h : CW per inf los N fl lo) : ∀ k n t, k < n → t + k = N → f_Ba_total_L4 per inf n (nI (sma fl t)) (nI t) = some (nI (sma fl N), nI N) := by
  have hN := h.2.1
  intro k
  induction k with
  | zero =>
    intro n t hn ht
    obtain ⟨m, rfl⟩ : ∃ m, n = m + 1 := ⟨n - 1, by omega⟩
    obtain rfl : t = N := by omega
    rw [f_Ba_total_L4_s, h.2.2.1, if_pos (nI_le (Nat.le_refl _) (by omega))]
  | succ k ih =>
    intro n t hn ht
    obtain ⟨m, rfl⟩ : ∃ m, n = m + 1 := ⟨n - 1, by omega⟩
    have hlt : ¬ nI N ≤ nI t := nI_ge (by omega) (by omega)
    have hlt' : ¬ per ≤ nI t := by rw [h.2.2.1]; exact hlt
    rw [f_Ba_total_L4_s, if_neg hlt', c_inflow h (by omega), z_obs, Nat.mod_eq_of_lt (by omega), nI_add, nI_1]
    exact ih m (t + 1) (by omega) (by omega)
theorem c_tot (h : CW per inf los N fl lo) : f_Ba_total per inf = some (nI (sma fl N)) := by
  have := c_tot_L h N FU 0 (by have := h.2.1; unfold FU; omega) (by omega)
  rw [f_Ba_total, show (0 : Int32) = nI 0 from rfl]
  rw [show sma fl 0 = 0 from rfl] at this
  rw [this]; rfl
theorem m_tot_L (h : MW r N fl lo) : ∀ k n t, k < n → t + k = N → f_Mo_total_L4 r n (nI (sma fl t)) (nI t) = some (nI (sma fl N), nI N) := by
  have hN := h.2.1
  intro k
  induction k with
  | zero =>
    intro n t hn ht
    obtain ⟨m, rfl⟩ : ∃ m, n = m + 1 := ⟨n - 1, by omega⟩
    obtain rfl : t = N := by omega
    rw [f_Mo_total_L4_s, if_neg (by decide), show (0 : Int32).toNatClampNeg = 0 from rfl, h.2.2.1, if_pos (nI_le (Nat.le_refl _) (by omega))]
  | succ k ih =>
    intro n t hn ht
    obtain ⟨m, rfl⟩ : ∃ m, n = m + 1 := ⟨n - 1, by omega⟩
    have hlt : ¬ nI N ≤ nI t := nI_ge (by omega) (by omega)
    have e1 : (1 : Int32) + nI t = nI (1 + t) := nI_add 1 t
    rw [f_Mo_total_L4_s, if_neg (by decide), show (0 : Int32).toNatClampNeg = 0 from rfl, h.2.2.1, if_neg hlt, e1, if_neg (ixn (by omega) (by omega)), nI_clamp (by omega), (h.2.2.2.1 t (by omega)).2, nI_add, nI_1]
    exact ih m (t + 1) (by omega) (by omega)
theorem m_tot (h : MW r N fl lo) : f_Mo_total r = some (nI (sma fl N)) := by
  have := m_tot_L h N FU 0 (by have := h.2.1; unfold FU; omega) (by omega)
  rw [f_Mo_total, show (0 : Int32) = nI 0 from rfl]
  rw [show sma fl 0 = 0 from rfl] at this
  rw [this]; rfl
end TOT
theorem pl_count (X : Nat → Int32) (Y ri rl rf : Nat → Nat → Int32) (im : Nat → Option Nat) (vi vl vf : Nat → Nat → Int32) (U : Nat → Int32) (V : Nat → Nat → Int32) (Z : Nat → Int64) (p0 : Int32) (h : Rel X Y ri rl rf im vi vl vf U V Z) : ∃ (out : Int32) (mout : Int32), f_Ye_count (X 0) (X 1) (X 2) (X 3) (X 4) (X 5) (X 6) (X 7) (Y 0) (X 16) (X 22) (X 31) p0 = some out ∧ f_Mo_count (U 0) (U 1) (U 2) (V 0) p0 = some mout ∧ out = mout ∧ Rel X Y ri rl rf im vi vl vf U V Z := by
  have h0 := h
  obtain ⟨⟨hB, hV⟩, ⟨n, hn, ex, eu, hy⟩, ⟨x, k, hx, hk, e1, e2, e3, -⟩, -, ⟨sn, hsn, ex2, eu2, -⟩, -⟩ := h
  obtain ⟨N, fl, lo, D, K, T, v, hM, hW⟩ := hV.out
  have hC := hB.cw hM
  obtain ⟨b0, b1, b2, b3, b4, b5, b6, b7, -, -⟩ := id hB
  by_cases q0 : p0 = 0
  · subst q0; exact ⟨X 0, V 0 0, rfl, rfl, b0.symm, h0⟩
  by_cases q1 : p0 = 1
  · subst q1; exact ⟨X 1, V 0 13, rfl, rfl, b1.symm, h0⟩
  by_cases q2 : p0 = 2
  · subst q2; exact ⟨X 2, V 0 14, rfl, rfl, b2.symm, h0⟩
  by_cases q3 : p0 = 3
  · subst q3; exact ⟨X 3, V 0 25, rfl, rfl, b3.symm, h0⟩
  by_cases q4 : p0 = 4
  · subst q4; exact ⟨X 4, V 0 26, rfl, rfl, b4.symm, h0⟩
  by_cases q5 : p0 = 5
  · subst q5; exact ⟨X 5, V 0 27, rfl, rfl, b5.symm, h0⟩
  by_cases q6 : p0 = 6
  · subst q6; exact ⟨X 6, V 0 28, rfl, rfl, b6.symm, h0⟩
  by_cases q7 : p0 = 7
  · subst q7; exact ⟨X 7, V 0 29, rfl, rfl, b7.symm, h0⟩
  by_cases q8 : p0 = 8
  · subst q8
    refine ⟨nI (sma fl N), nI (sma fl N), ?_, ?_, rfl, h0⟩
    · have e : f_Ye_count (X 0) (X 1) (X 2) (X 3) (X 4) (X 5) (X 6) (X 7) (Y 0) (X 16) (X 22) (X 31) 8 = Option.bind (f_Ba_total (X 0) (Y 0)) (fun z => some z) := rfl
      rw [e, c_tot hC]; rfl
    · have e : f_Mo_count (U 0) (U 1) (U 2) (V 0) 8 = Option.bind (f_Mo_total (V 0)) (fun z => some z) := rfl
      rw [e, m_tot hM]; rfl
  by_cases q9 : p0 = 9
  · subst q9; exact ⟨X 31, U 1, rfl, rfl, ex2.trans eu2.symm, h0⟩
  by_cases q10 : p0 = 10
  · subst q10; exact ⟨X 16, U 2, rfl, rfl, ex.trans eu.symm, h0⟩
  by_cases q11 : p0 = 11
  · subst q11; exact ⟨X 22, U 0, rfl, rfl, e2.trans e3.symm, h0⟩
  refine ⟨-1, -1, ?_, ?_, rfl, h0⟩
  · rw [f_Ye_count, if_neg q0, if_neg q1, if_neg q2, if_neg q3, if_neg q4, if_neg q5, if_neg q6, if_neg q7, if_neg q8, if_neg q9, if_neg q10, if_neg q11]
  · rw [f_Mo_count, if_neg q0, if_neg q1, if_neg q2, if_neg q3, if_neg q4, if_neg q5, if_neg q6, if_neg q7, if_neg q8, if_neg q9, if_neg q10, if_neg q11]
