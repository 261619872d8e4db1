/-! ===== runs of periods ===== -/
/-- VOLUME behind k periods from period t on -/
def itv (fl lo : Nat → Nat) (N D K : Nat) : Nat → Nat → Nat → Nat
  | 0, _, v => v
  | k + 1, t, v => itv fl lo N D K k (t + 1) (stp fl lo N D K t v)
theorem stp_le (fl lo : Nat → Nat) (N D K t v : Nat) : stp fl lo N D K t v ≤ K := hl_le _ _
theorem itv_le (fl lo : Nat → Nat) (N D K : Nat) : ∀ k t v, v ≤ K → itv fl lo N D K k t v ≤ K
  | 0, _, _, h => h
  | k + 1, t, v, _ => itv_le fl lo N D K k (t + 1) _ (stp_le _ _ _ _ _ _ _)
section RUN
variable {per : Int32} {inf los r : Nat → Int32} {N D K : Nat} {fl lo : Nat → Nat}
theorem c_run (h : CW per inf los N fl lo) (hD : D ≤ 99) (hK : K ≤ 999) {T : Nat} (hT : T ≤ 999) : ∀ k n v t, k < n → t + k = T + 1 → v ≤ K → f_Fu_volumeBehind_L8 per (nI D) (nI K) inf los (nI T) n (nI v) (nI t) = some (nI (itv fl lo N D K k t v), nI (T + 1)) := by
  intro k
  induction k with
  | zero =>
    intro n v t hn ht hv
    obtain ⟨m, rfl⟩ : ∃ m, n = m + 1 := ⟨n - 1, by omega⟩
    obtain rfl : t = T + 1 := by omega
    rw [f_Fu_volumeBehind_L8_s, if_pos (nI_lt (by omega) (by omega))]; rfl
  | succ k ih =>
    intro n v t hn ht hv
    obtain ⟨m, rfl⟩ : ∃ m, n = m + 1 := ⟨n - 1, by omega⟩
    have hr := h.rng t (v := v) (d := D) (by omega) hD
    rw [f_Fu_volumeBehind_L8_s, if_neg (nI_nlt (by omega) (by omega)), c_level h (by omega) (by omega), z_obs, c_held hr.1 hr.2 hK, z_obs, nI_1]
    exact ih m _ (t + 1) (by omega) (by omega) (hl_le _ _)
theorem m_run (h : MW r N fl lo) (hD : D ≤ 99) (hK : K ≤ 999) (eD : r 13 = nI D) (eK : r 14 = nI K) {T : Nat} (hT : T ≤ 999) : ∀ k n v t, k < n → t + k = T + 1 → v ≤ K → f_Mo_run_L23 r (nI T) n (nI v) (nI t) = some (nI (itv fl lo N D K k t v), nI (T + 1)) := by
  intro k
  induction k with
  | zero =>
    intro n v t hn ht hv
    obtain ⟨m, rfl⟩ : ∃ m, n = m + 1 := ⟨n - 1, by omega⟩
    obtain rfl : t = T + 1 := by omega
    rw [f_Mo_run_L23_s, if_pos (nI_lt (by omega) (by omega))]; rfl
  | succ k ih =>
    intro n v t hn ht hv
    obtain ⟨m, rfl⟩ : ∃ m, n = m + 1 := ⟨n - 1, by omega⟩
    have hr := h.rng t (v := v) (d := D) (by omega) hD
    rw [f_Mo_run_L23_s, if_neg (nI_nlt (by omega) (by omega)), m_flow h (by omega), z_obs, if_neg (by decide), show (13 : Int32).toNatClampNeg = 13 from rfl, eD, m_raw h (by omega), z_obs, if_neg (by decide), show (14 : Int32).toNatClampNeg = 14 from rfl, eK, m_kept hr.1 hr.2 hK, z_obs, nI_1]
    exact ih m _ (t + 1) (by omega) (by omega) (hl_le _ _)
/-- none of k periods fails -/
def nof (fl lo : Nat → Nat) (N D K : Nat) : Nat → Nat → Nat → Bool
  | 0, _, _ => true
  | k + 1, t, v => if (v : Int) + fl (t % N) - lo (v / 100) - D < 0 then false else nof fl lo N D K k (t + 1) (stp fl lo N D K t v)
theorem min_hl {x : Int} {K : Nat} (h0 : 0 ≤ x) (h2 : x ≤ 100000) (hK : K ≤ 999) : (if nI K < iI x then nI K else iI x) = nI (hl x K) := by
  unfold hl
  by_cases a : (K : Int) < x
  · rw [if_pos ((iI_Klt (by omega) h2 (by omega)).mpr a), if_neg (by omega), if_pos a]
  · rw [if_neg (fun q => a ((iI_Klt (by omega) h2 (by omega)).mp q)), if_neg (by omega), if_neg a, iI_toNat h0]
theorem c_fails (h : CW per inf los N fl lo) (hD : D ≤ 99) (hK : K ≤ 999) {M : Nat} (hM : M ≤ 120) : ∀ k n v t, k < n → t + k = M → v ≤ K → ∃ z, f_Fu_failsWithin_L5 per (nI D) inf los (nI K) (nI M) n (nI v) (nI t) = some z ∧ (nof fl lo N D K k t v = true → ∃ x, z = .inl x) ∧ (nof fl lo N D K k t v = false → z = .inr 1) := by
  intro k
  induction k with
  | zero =>
    intro n v t hn ht hv
    obtain ⟨m, rfl⟩ : ∃ m, n = m + 1 := ⟨n - 1, by omega⟩
    rw [f_Fu_failsWithin_L5_s, if_pos (nI_le (by omega) (by omega))]
    exact ⟨_, rfl, fun _ => ⟨_, rfl⟩, fun h => by cases h⟩
  | succ k ih =>
    intro n v t hn ht hv
    obtain ⟨m, rfl⟩ : ∃ m, n = m + 1 := ⟨n - 1, by omega⟩
    have hr := h.rng t (v := v) (d := D) (by omega) hD
    rw [f_Fu_failsWithin_L5_s, if_neg (nI_ge (by omega) (by omega)), c_level h (by omega) (by omega), z_obs]
    by_cases hx : (v : Int) + fl (t % N) - lo (v / 100) - D < 0
    · rw [if_neg (fun q => absurd ((iI_pos0 hr.1 hr.2).mp q) (by omega))]
      refine ⟨_, rfl, fun hh => ?_, fun _ => rfl⟩
      rw [nof, if_pos hx] at hh; cases hh
    · rw [if_pos ((iI_pos0 hr.1 hr.2).mpr (by omega)), min_hl (by omega) hr.2 hK, nI_1]
      obtain ⟨z, hz, h1, h2⟩ := ih m (stp fl lo N D K t v) (t + 1) (by omega) (by omega) (stp_le _ _ _ _ _ _ _)
      refine ⟨z, hz, fun hh => h1 ?_, fun hh => h2 ?_⟩
      · rw [nof, if_neg hx] at hh; exact hh
      · rw [nof, if_neg hx] at hh; exact hh
theorem m_enough (h : MW r N fl lo) (hD : D ≤ 99) (hK : K ≤ 999) (eD : r 13 = nI D) {M : Nat} (hM : M ≤ 120) : ∀ k n v t, k + 1 < n → t + k = M → v ≤ K → ∃ a b, f_Mo_isEnough_L8 r (nI K) (nI M) n (nI v) 1 (nI t) = some (a, (if nof fl lo N D K k t v = true then 1 else 0), b) := by
  intro k
  induction k with
  | zero =>
    intro n v t hn ht hv
    obtain ⟨m, rfl⟩ : ∃ m, n = m + 1 := ⟨n - 1, by omega⟩
    rw [f_Mo_isEnough_L8_s, if_pos (nI_le (by omega) (by omega))]
    exact ⟨_, _, rfl⟩
  | succ k ih =>
    intro n v t hn ht hv
    obtain ⟨m, rfl⟩ : ∃ m, n = m + 1 := ⟨n - 1, by omega⟩
    have hr := h.rng t (v := v) (d := D) (by omega) hD
    rw [f_Mo_isEnough_L8_s, if_neg (nI_ge (by omega) (by omega)), if_neg (by decide), m_flow h (by omega), z_obs, if_neg (by decide), show (13 : Int32).toNatClampNeg = 13 from rfl, eD, m_raw h (by omega), z_obs]
    by_cases hx : (v : Int) + fl (t % N) - lo (v / 100) - D < 0
    · rw [if_pos ((iI_lt0 hr.1 hr.2).mpr hx), m_kept hr.1 hr.2 hK, z_obs, nof, if_pos hx]
      obtain ⟨m2, rfl⟩ : ∃ m2, m = m2 + 1 := ⟨m - 1, by omega⟩
      rw [f_Mo_isEnough_L8_s]
      by_cases hc : nI M ≤ nI t + 1
      · rw [if_pos hc]; exact ⟨_, _, rfl⟩
      · rw [if_neg hc, if_pos rfl]; exact ⟨_, _, rfl⟩
    · rw [if_neg (fun q => hx ((iI_lt0 hr.1 hr.2).mp q)), m_kept hr.1 hr.2 hK, z_obs, nof, if_neg hx, nI_1]
      exact ih m (stp fl lo N D K t v) (t + 1) (by omega) (by omega) (stp_le _ _ _ _ _ _ _)
end RUN
theorem pl_run (X : Nat → Int32) (Y ri rl rf : Nat → Nat → Int32) (im : Nat → Option Nat) (vi vl vf : Nat → Nat → Int32) (U : Nat → Int32) (V : Nat → Nat → Int32) (Z : Nat → Int64) (p0 : Int32) (h : Rel X Y ri rl rf im vi vl vf U V Z) : ∃ (out : Int32) (mout : Int32), f_Ye_run (X 0) (X 1) (X 2) (Y 0) (Y 1) p0 = some out ∧ f_Mo_run (V 0) p0 = some mout ∧ out = mout ∧ Rel X Y ri rl rf im vi vl vf U V Z := by
  have h0 := h
  obtain ⟨⟨hB, hV⟩, -⟩ := h
  obtain ⟨N, fl, lo, D, K, T, v, hM, hW⟩ := hV.out
  have hC := hB.cw hM
  obtain ⟨b0, b1, b2, -⟩ := id hB
  obtain ⟨w1, w2, w3, w4, w5, w6, w7, w8⟩ := id hW
  by_cases hp : 0 ≤ p0 ∧ p0 ≤ 999
  · obtain ⟨w, hw, rfl⟩ := nI_rng 999 (by decide) hp
    refine ⟨nI (itv fl lo N D K (w + 1) 0 K), nI (itv fl lo N D K (w + 1) 0 K), ?_, ?_, rfl, h0⟩
    · rw [f_Ye_run, isOut, if_pos hp, z_obs, if_pos rfl, f_Fu_volumeBehind, ← b1, ← b2, w5, w6, show (0 : Int32) = nI 0 from rfl, c_run hC w1 w2 hw (w + 1) FU K 0 (by unfold FU; omega) (by omega) (Nat.le_refl _)]; rfl
    · rw [f_Mo_run, mIn, if_pos hp, z_obs, if_neg (by decide), if_neg (by decide), show (14 : Int32).toNatClampNeg = 14 from rfl, w6, show (0 : Int32) = nI 0 from rfl, m_run hM w1 w2 w5 w6 hw (w + 1) FU K 0 (by unfold FU; omega) (by omega) (Nat.le_refl _)]; rfl
  · refine ⟨-1, -1, ?_, ?_, rfl, h0⟩
    · rw [f_Ye_run, isOut, if_neg hp]; rfl
    · rw [f_Mo_run, mIn, if_neg hp]; rfl
theorem least_both {per : Int32} {inf los r : Nat → Int32} {N D : Nat} {fl lo : Nat → Nat} (hC : CW per inf los N fl lo) (h : MW r N fl lo) (hD : D ≤ 99) (eD : r 13 = nI D) {M : Nat} (hM : M ≤ 120) : ∀ k n c, k < n → c + k = 1000 → ∃ z z', f_Fu_leastCap_L2 per (nI D) inf los (nI M) n (nI c) = some z ∧ f_Mo_least_L14 r (nI M) n (nI c) = some z' ∧ Sum.elim (fun _ => some (-9 : Int32)) (fun r => some r) z = Sum.elim (fun _ => some (-9 : Int32)) (fun r => some r) z' := by
  intro k
  induction k with
  | zero =>
    intro n c hn hc
    obtain ⟨m, rfl⟩ : ∃ m, n = m + 1 := ⟨n - 1, by omega⟩
    obtain rfl : c = 1000 := by omega
    exact ⟨.inl (nI 1000), .inl (nI 1000), by rw [f_Fu_leastCap_L2_s, if_pos (by decide)], by rw [f_Mo_least_L14_s, if_pos (by decide)], rfl⟩
  | succ k ih =>
    intro n c hn hc
    obtain ⟨m, rfl⟩ : ∃ m, n = m + 1 := ⟨n - 1, by omega⟩
    have hlt : ¬ (999 : Int32) < nI c := nI_nlt (a := 999) (by omega) (by decide)
    obtain ⟨z, hz, h1, h2⟩ := c_fails hC hD (K := c) (by omega) hM M FU c 0 (by unfold FU; omega) (by omega) (Nat.le_refl _)
    obtain ⟨a, b, hm⟩ := m_enough h hD (K := c) (by omega) eD hM M FU c 0 (by unfold FU; omega) (by omega) (Nat.le_refl _)
    rw [f_Fu_leastCap_L2_s, if_neg hlt, f_Mo_least_L14_s, if_neg hlt, f_Fu_failsWithin, show (0 : Int32) = nI 0 from rfl, hz, z_obs, f_Mo_isEnough, show (0 : Int32) = nI 0 from rfl, hm, z_obs]
    cases hno : nof fl lo N D c M 0 c with
    | true =>
      obtain ⟨x, rfl⟩ := h1 hno
      exact ⟨.inr (nI c), .inr (nI c), rfl, rfl, rfl⟩
    | false =>
      obtain rfl := h2 hno
      obtain ⟨z, z', e1, e2, e3⟩ := ih m (c + 1) (by omega) (by omega)
      refine ⟨z, z', ?_, ?_, e3⟩
      · rw [← e1, ← nI_1]; rfl
      · rw [← e2, ← nI_1]; rfl
theorem pl_least (X : Nat → Int32) (Y ri rl rf : Nat → Nat → Int32) (im : Nat → Option Nat) (vi vl vf : Nat → Nat → Int32) (U : Nat → Int32) (V : Nat → Nat → Int32) (Z : Nat → Int64) (p0 : Int32) (h : Rel X Y ri rl rf im vi vl vf U V Z) : ∃ (out : Int32) (mout : Int32), f_Ye_least (X 0) (X 1) (Y 0) (Y 1) p0 = some out ∧ f_Mo_least (V 0) p0 = some mout ∧ out = mout ∧ Rel X Y ri rl rf im vi vl vf U V Z := by
  have h0 := h
  obtain ⟨⟨hB, hV⟩, -⟩ := h
  obtain ⟨N, fl, lo, D, K, T, v, hM, hW⟩ := hV.out
  have hC := hB.cw hM
  obtain ⟨b0, b1, b2, -⟩ := id hB
  obtain ⟨w1, w2, w3, w4, w5, w6, w7, w8⟩ := id hW
  by_cases hp : 1 ≤ p0 ∧ p0 ≤ 120
  · obtain ⟨w, hw, rfl⟩ := nI_rng 120 (by decide) ⟨Int32.le_trans (by decide) hp.1, hp.2⟩
    obtain ⟨z, z', e1, e2, e3⟩ := least_both hC hM w1 w5 hw 1000 FU 0 (by unfold FU; omega) (by omega)
    have hz : ∃ q, Sum.elim (fun _ => some (-9 : Int32)) (fun r => some r) z = some q := by cases z <;> exact ⟨_, rfl⟩
    obtain ⟨q, hq⟩ := hz
    refine ⟨q, q, ?_, ?_, rfl, h0⟩
    · rw [f_Ye_least, isOut, if_pos hp, z_obs, if_pos rfl, f_Fu_leastCap, ← b1, w5, show (0 : Int32) = nI 0 from rfl, e1, z_obs, hq]; rfl
    · rw [f_Mo_least, mIn, if_pos hp, z_obs, if_neg (by decide), show (0 : Int32) = nI 0 from rfl, e2, z_obs, ← e3, hq]
  · refine ⟨-1, -1, ?_, ?_, rfl, h0⟩
    · rw [f_Ye_least, isOut, if_neg hp]; rfl
    · rw [f_Mo_least, mIn, if_neg hp]; rfl
