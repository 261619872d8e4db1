/-! ===== ROUND ===== -/
theorem pigeon : ∀ (m : Nat) (f : Nat → Nat), (∀ i, i ≤ m → f i < m) → ∃ i j, i < j ∧ j ≤ m ∧ f i = f j := by
  intro m
  induction m with
  | zero => intro f h; exact absurd (h 0 (Nat.le_refl _)) (by omega)
  | succ m ih =>
    intro f h
    by_cases hs : ∃ i, i < m + 1 ∧ f i = f (m + 1)
    · obtain ⟨i, a, b⟩ := hs
      exact ⟨i, m + 1, a, Nat.le_refl _, b⟩
    · have hn : ∀ i, i < m + 1 → f i ≠ f (m + 1) := fun i hi e => hs ⟨i, hi, e⟩
      obtain ⟨i, j, a, b, c⟩ := ih (fun i => if f i = m then f (m + 1) else f i) (fun i hi => by
        have h1 := h i (by omega)
        have h2 := h (m + 1) (by omega)
        have h3 := hn i (by omega)
        show (if f i = m then f (m + 1) else f i) < m
        split <;> omega)
      refine ⟨i, j, a, by omega, ?_⟩
      have h1 := hn i (by omega)
      have h2 := hn j (by omega)
      have c' : (if f i = m then f (m + 1) else f i) = (if f j = m then f (m + 1) else f j) := c
      split at c' <;> split at c' <;> omega
theorem firstTwice (f : Nat → Nat) : ∀ P, (∃ S, S < P ∧ f S = f P) → ∃ Q, Q ≤ P ∧ (∃ S, S < Q ∧ f S = f Q) ∧ ∀ q, q < Q → ∀ j, j < q → f j ≠ f q := by
  intro P
  induction P using Nat.strongRecOn with
  | ind P ih =>
    intro h
    by_cases hx : ∃ q, q < P ∧ ∃ j, j < q ∧ f j = f q
    · obtain ⟨q, hq, j, hj, e⟩ := hx
      obtain ⟨Q, a, b, c⟩ := ih q hq ⟨j, hj, e⟩
      exact ⟨Q, by omega, b, c⟩
    · exact ⟨P, Nat.le_refl _, h, fun q hq j hj e => hx ⟨q, hq, j, hj, e⟩⟩
/-- fails of k periods from period t on -/
def fls (fl lo : Nat → Nat) (N D K : Nat) : Nat → Nat → Nat → Nat
  | 0, _, _ => 0
  | k + 1, t, v => (if (v : Int) + fl (t % N) - lo (v / 100) - D < 0 then 1 else 0) + fls fl lo N D K k (t + 1) (stp fl lo N D K t v)
/-- volumes and fails at the multiples of n -/
def vs (fl lo : Nat → Nat) (N D K : Nat) : Nat → Nat
  | 0 => K
  | j + 1 => itv fl lo N D K N 0 (vs fl lo N D K j)
def fs (fl lo : Nat → Nat) (N D K : Nat) : Nat → Nat
  | 0 => 0
  | j + 1 => fs fl lo N D K j + fls fl lo N D K N 0 (vs fl lo N D K j)
theorem vs_le (fl lo : Nat → Nat) (N D K : Nat) : ∀ j, vs fl lo N D K j ≤ K
  | 0 => Nat.le_refl _
  | j + 1 => itv_le _ _ _ _ _ _ _ _ (vs_le fl lo N D K j)
theorem fs_mono (fl lo : Nat → Nat) (N D K S : Nat) : ∀ i, fs fl lo N D K S ≤ fs fl lo N D K (S + i)
  | 0 => Nat.le_refl _
  | i + 1 => Nat.le_trans (fs_mono fl lo N D K S i) (by rw [← Nat.add_assoc, fs]; omega)
section ROU
variable {per : Int32} {inf los r : Nat → Int32} {N D K : Nat} {fl lo : Nat → Nat}
theorem c_after_L (h : CW per inf los N fl lo) (hD : D ≤ 99) (hK : K ≤ 999) : ∀ k n t v (F : Int32), k < n → t + k = N → v ≤ K → f_Fu_volumeAfterAll_L5 per (nI D) (nI K) inf los n (nI v) (nI t) F = some (nI (itv fl lo N D K k t v), nI N, F + nI (fls fl lo N D K k t v)) := by
  have hN := h.2.1
  intro k
  induction k with
  | zero =>
    intro n t v F hn ht hv
    obtain ⟨m, rfl⟩ : ∃ m, n = m + 1 := ⟨n - 1, by omega⟩
    obtain rfl : t = N := by omega
    rw [f_Fu_volumeAfterAll_L5_s, h.2.2.1, if_pos (nI_le (Nat.le_refl _) (by omega)), fls, show nI 0 = (0 : Int32) from rfl, Int32.add_zero]; rfl
  | succ k ih =>
    intro n t v F hn ht hv
    obtain ⟨m, rfl⟩ : ∃ m, n = m + 1 := ⟨n - 1, by omega⟩
    have hr := h.rng t (v := v) (d := D) (by omega) hD
    have hper : ¬ per ≤ nI t := by rw [h.2.2.1]; exact nI_ge (by omega) (by omega)
    rw [f_Fu_volumeAfterAll_L5_s, if_neg hper, c_level h (by omega) (by omega), z_obs, c_held hr.1 hr.2 hK, z_obs, z_obs, nI_1, fls, itv]
    by_cases hx : (v : Int) + fl (t % N) - lo (v / 100) - D < 0
    · rw [if_neg (fun q => absurd ((iI_pos0 hr.1 hr.2).mp q) (by omega)), if_pos hx]
      rw [show nI (hl ((v : Int) + fl (t % N) - lo (v / 100) - D) K) = nI (stp fl lo N D K t v) from rfl, ih m (t + 1) (stp fl lo N D K t v) (F + 1) (by omega) (by omega) (stp_le _ _ _ _ _ _ _), Int32.add_assoc, show (1 : Int32) = nI 1 from rfl, nI_add]
    · rw [if_pos ((iI_pos0 hr.1 hr.2).mpr (by omega)), if_neg hx]
      rw [show nI (hl ((v : Int) + fl (t % N) - lo (v / 100) - D) K) = nI (stp fl lo N D K t v) from rfl, ih m (t + 1) (stp fl lo N D K t v) F (by omega) (by omega) (stp_le _ _ _ _ _ _ _), Nat.zero_add]
theorem c_after (h : CW per inf los N fl lo) (hD : D ≤ 99) (hK : K ≤ 999) {v : Nat} (F : Int32) (hv : v ≤ K) : f_Fu_volumeAfterAll F per (nI D) (nI K) inf los (nI v) = some (nI (itv fl lo N D K N 0 v), F + nI (fls fl lo N D K N 0 v)) := by
  have e : f_Fu_volumeAfterAll_L5 per (nI D) (nI K) inf los FU (nI v) (0 : Int32) F = _ := c_after_L h hD hK N FU 0 v F (by have := h.2.1; unfold FU; omega) (by omega) hv
  rw [f_Fu_volumeAfterAll, e]; rfl
theorem m_after_L (h : MW r N fl lo) (hD : D ≤ 99) (hK : K ≤ 999) (eD : r 13 = nI D) (eK : r 14 = nI K) : ∀ k n t v (f : Nat), k < n → t + k = N → v ≤ K → f_Mo_round_L76 r n (nI v) (nI f) (nI t) = some (nI (itv fl lo N D K k t v), nI (f + fls fl lo N D K k t v), nI N) := by
  have hN := h.2.1
  intro k
  induction k with
  | zero =>
    intro n t v f hn ht hv
    obtain ⟨m, rfl⟩ : ∃ m, n = m + 1 := ⟨n - 1, by omega⟩
    obtain rfl : t = N := by omega
    rw [f_Mo_round_L76_s, gz, show (0 : Int32).toNatClampNeg = 0 from rfl, h.2.2.1, if_pos (nI_le (Nat.le_refl _) (by omega))]; rfl
  | succ k ih =>
    intro n t v f hn ht hv
    obtain ⟨m, rfl⟩ : ∃ m, n = m + 1 := ⟨n - 1, by omega⟩
    have hr := h.rng t (v := v) (d := D) (by omega) hD
    have hf : r (1 + t) = nI (fl (t % N)) := by rw [Nat.mod_eq_of_lt (show t < N by omega)]; exact (h.2.2.2.1 t (by omega)).2
    rw [f_Mo_round_L76_s, gz, show (0 : Int32).toNatClampNeg = 0 from rfl, h.2.2.1, if_neg (nI_ge (by omega) (by omega)), show (1 : Int32) + nI t = nI (1 + t) from nI_add 1 t, if_neg (ixn (by omega) (by decide)), if_neg (by decide), nI_clamp (by omega), hf, show (13 : Int32).toNatClampNeg = 13 from rfl, eD, m_raw h (by omega), z_obs, show (14 : Int32).toNatClampNeg = 14 from rfl, eK, m_kept hr.1 hr.2 hK, z_obs, z_obs, nI_1, fls, itv]
    by_cases hx : (v : Int) + fl (t % N) - lo (v / 100) - D < 0
    · rw [if_neg (fun q => absurd ((iI_pos0 hr.1 hr.2).mp q) (by omega)), if_neg (by decide), if_pos hx, nI_1]
      rw [show nI (hl ((v : Int) + fl (t % N) - lo (v / 100) - D) K) = nI (stp fl lo N D K t v) from rfl, ih m (t + 1) (stp fl lo N D K t v) (f + 1) (by omega) (by omega) (stp_le _ _ _ _ _ _ _), Nat.add_assoc]
    · rw [if_pos ((iI_pos0 hr.1 hr.2).mpr (by omega)), if_neg (by decide), if_neg hx, Int32.add_zero]
      rw [show nI (hl ((v : Int) + fl (t % N) - lo (v / 100) - D) K) = nI (stp fl lo N D K t v) from rfl, ih m (t + 1) (stp fl lo N D K t v) f (by omega) (by omega) (stp_le _ _ _ _ _ _ _), Nat.zero_add]
theorem c_wipe : ∀ k n i (g : Nat → Int32), k < n → i + k = 1000 → (∀ v, v < i → g v = -1) → ∃ z g', f_Fu_findRound_L2 n (nI i) g = some (z, g') ∧ ∀ v, v < 1000 → g' v = -1 := by
  intro k
  induction k with
  | zero =>
    intro n i g hn hi hg
    obtain ⟨m, rfl⟩ : ∃ m, n = m + 1 := ⟨n - 1, by omega⟩
    refine ⟨nI i, g, ?_, fun v hv => hg v (by omega)⟩
    rw [f_Fu_findRound_L2_s, if_pos (show (999 : Int32) < nI i from nI_lt (a := 999) (by omega) (by omega))]
  | succ k ih =>
    intro n i g hn hi hg
    obtain ⟨m, rfl⟩ : ∃ m, n = m + 1 := ⟨n - 1, by omega⟩
    rw [f_Fu_findRound_L2_s, if_neg (show ¬ (999 : Int32) < nI i from nI_nlt (a := 999) (by omega) (by decide)), if_neg (ixn (by omega) (by decide)), nI_1, nI_clamp (by omega)]
    exact ih m (i + 1) _ (by omega) (by omega) (fun v hv => by
      by_cases e : v = i
      · subst e; rw [upd_at]
      · rw [upd_ne e]; exact hg v (by omega))
theorem m_wipe : ∀ k n i (g : Nat → Int32), k < n → i + k = 1000 → (∀ v, v < i → g v = -9) → ∃ z g', f_Mo_round_L13 n (nI i) g = some (z, g') ∧ ∀ v, v < 1000 → g' v = -9 := by
  intro k
  induction k with
  | zero =>
    intro n i g hn hi hg
    obtain ⟨m, rfl⟩ : ∃ m, n = m + 1 := ⟨n - 1, by omega⟩
    refine ⟨nI i, g, ?_, fun v hv => hg v (by omega)⟩
    rw [f_Mo_round_L13_s, if_pos (show (999 : Int32) < nI i from nI_lt (a := 999) (by omega) (by omega))]
  | succ k ih =>
    intro n i g hn hi hg
    obtain ⟨m, rfl⟩ : ∃ m, n = m + 1 := ⟨n - 1, by omega⟩
    rw [f_Mo_round_L13_s, if_neg (show ¬ (999 : Int32) < nI i from nI_nlt (a := 999) (by omega) (by decide)), if_neg (ixn (by omega) (by decide)), nI_1, nI_clamp (by omega)]
    exact ih m (i + 1) _ (by omega) (by omega) (fun v hv => by
      by_cases e : v = i
      · subst e; rw [upd_at]
      · rw [upd_ne e]; exact hg v (by omega))
theorem c_mult {g : Nat → Int32} {v : Nat} (hv : v ≤ 999) : f_Fu_multipleOf g (nI v) = some (g v) := by
  rw [f_Fu_multipleOf, isOut, if_pos (show (0 : Int32) ≤ nI v ∧ nI v ≤ (999 : Int32) from nI_rng' (M := 999) (by decide) hv), z_obs, if_pos rfl, if_neg (ixn (by omega) (by decide)), nI_clamp (by omega)]
theorem c_note {g : Nat → Int32} {v : Nat} (x : Int32) (hv : v ≤ 999) : f_Fu_noteMultiple g (nI v) x = some (upd g v x) := by
  rw [f_Fu_noteMultiple, isOut, if_pos (show (0 : Int32) ≤ nI v ∧ nI v ≤ (999 : Int32) from nI_rng' (M := 999) (by decide) hv), z_obs, if_pos rfl, if_neg (ixn (by omega) (by decide)), nI_clamp (by omega)]
theorem nI_nm {j : Nat} (h : j < 2147483648) (x : Int32) (hx : x < 0) : ¬ nI j = x := fun e => by
  have h1 : (0 : Int32) ≤ nI j := nI_pos' h
  rw [e] at h1; exact absurd h1 (Int32.not_le.mpr hx)
theorem c_round (h : CW per inf los N fl lo) (hD : D ≤ 99) (hK : K ≤ 999) {P S : Nat} (hP : P ≤ 1000) (hS : S < P) (eS : vs fl lo N D K S = vs fl lo N D K P) (hd : ∀ q, q < P → ∀ j, j < q → vs fl lo N D K j ≠ vs fl lo N D K q) : ∀ k n m (F : Int32) (g : Nat → Int32), k < n → m + k = P → (∀ j, j < m → g (vs fl lo N D K j) = nI j) → (∀ v, v < 1000 → (∀ j, j < m → vs fl lo N D K j ≠ v) → g v = -1) → ∃ F' g', f_Fu_findRound_L29 per (nI D) (nI K) inf los n (nI (vs fl lo N D K m)) (nI m) F g = some (nI (vs fl lo N D K P), nI P, F', g') ∧ g' (vs fl lo N D K P) = nI S := by
  intro k
  induction k with
  | zero =>
    intro n m F g hn hm hg1 hg2
    obtain ⟨n', rfl⟩ : ∃ m, n = m + 1 := ⟨n - 1, by omega⟩
    obtain rfl : m = P := by omega
    have e := hg1 S hS
    rw [eS] at e
    have hv := vs_le fl lo N D K m
    refine ⟨F, g, ?_, e⟩
    rw [f_Fu_findRound_L29_s]
    by_cases hc : (999 : Int32) < nI m
    · rw [if_pos hc]
    · rw [if_neg hc, c_mult (by omega), z_obs, e, if_neg (nI_nm (by omega) _ (by decide))]
  | succ k ih =>
    intro n m F g hn hm hg1 hg2
    obtain ⟨n', rfl⟩ : ∃ m, n = m + 1 := ⟨n - 1, by omega⟩
    have hv := vs_le fl lo N D K m
    rw [f_Fu_findRound_L29_s, if_neg (show ¬ (999 : Int32) < nI m from nI_nlt (a := 999) (by omega) (by decide)), c_mult (by omega), z_obs, hg2 _ (by omega) (hd m (by omega)), if_pos rfl, c_note _ (by omega), z_obs, c_after h hD hK F hv, z_obs, nI_1]
    exact ih n' (m + 1) _ _ (by omega) (by omega) (fun j hj => by
      by_cases e : j = m
      · subst e; rw [upd_at]
      · rw [upd_ne (hd m (by omega) j (by omega))]; exact hg1 j (by omega)) (fun v hv' hn' => by
      rw [upd_ne (fun e => hn' m (by omega) e.symm)]
      exact hg2 v hv' (fun j hj => hn' j (by omega)))
theorem m_round (h : MW r N fl lo) (hD : D ≤ 99) (hK : K ≤ 999) (eD : r 13 = nI D) (eK : r 14 = nI K) {P S : Nat} (hP : P ≤ 1000) (hS : S < P) (eS : vs fl lo N D K S = vs fl lo N D K P) (hd : ∀ q, q < P → ∀ j, j < q → vs fl lo N D K j ≠ vs fl lo N D K q) : ∀ k n m (g b : Nat → Int32), k < n → m + k = P → (∀ j, j < m → g (vs fl lo N D K j) = nI j ∧ b (vs fl lo N D K j) = nI (fs fl lo N D K j)) → (∀ v, v < 1000 → (∀ j, j < m → vs fl lo N D K j ≠ v) → g v = -9) → ∃ g' b', f_Mo_round_L47 r n (nI (vs fl lo N D K m)) (nI (fs fl lo N D K m)) (nI m) g b = some (nI (vs fl lo N D K P), nI (fs fl lo N D K P), nI P, g', b') ∧ g' (vs fl lo N D K P) = nI S ∧ b' (vs fl lo N D K P) = nI (fs fl lo N D K S) := by
  have hN := h.2.1
  intro k
  induction k with
  | zero =>
    intro n m g b hn hm hg1 hg2
    obtain ⟨n', rfl⟩ : ∃ m, n = m + 1 := ⟨n - 1, by omega⟩
    obtain rfl : m = P := by omega
    obtain ⟨e, e2⟩ := hg1 S hS
    rw [eS] at e e2
    have hv := vs_le fl lo N D K m
    refine ⟨g, b, ?_, e, e2⟩
    rw [f_Mo_round_L47_s, if_neg (ixn (by omega) (by decide)), nI_clamp (by omega), e, if_neg (nI_nm (by omega) _ (by decide))]
  | succ k ih =>
    intro n m g b hn hm hg1 hg2
    obtain ⟨n', rfl⟩ : ∃ m, n = m + 1 := ⟨n - 1, by omega⟩
    have hv := vs_le fl lo N D K m
    have e : f_Mo_round_L76 r FU (nI (vs fl lo N D K m)) (nI (fs fl lo N D K m)) (0 : Int32) = _ := m_after_L h hD hK eD eK N FU 0 (vs fl lo N D K m) (fs fl lo N D K m) (by unfold FU; omega) (by omega) hv
    rw [f_Mo_round_L47_s, if_neg (ixn (by omega) (by decide)), nI_clamp (by omega), hg2 _ (by omega) (hd m (by omega)), if_pos rfl, e, z_obs, nI_1]
    exact ih n' (m + 1) _ _ (by omega) (by omega) (fun j hj => by
      by_cases e : j = m
      · subst e; rw [upd_at, upd_at]; exact ⟨rfl, rfl⟩
      · rw [upd_ne (hd m (by omega) j (by omega)), upd_ne (hd m (by omega) j (by omega))]; exact hg1 j (by omega)) (fun v hv' hn' => by
      rw [upd_ne (fun e => hn' m (by omega) e.symm)]
      exact hg2 v hv' (fun j hj => hn' j (by omega)))
theorem c_again (h : CW per inf los N fl lo) (hD : D ≤ 99) (hK : K ≤ 999) (z8 : Int32 × Int32 × Int32 × (Nat → Int32)) (z9 : Int32) {S Q : Nat} (hQ : Q ≤ 1000) (eQ : z8.2.1 - z9 = nI Q) : ∀ k n i, k < n → i + k = Q → ∃ a b, f_Fu_findRound_L91 per (nI D) (nI K) inf los z8 z9 n (nI (vs fl lo N D K (S + i))) (nI i) (nI (fs fl lo N D K (S + i) - fs fl lo N D K S)) = some (a, b, nI (fs fl lo N D K (S + Q) - fs fl lo N D K S)) := by
  intro k
  induction k with
  | zero =>
    intro n i hn hi
    obtain ⟨n', rfl⟩ : ∃ m, n = m + 1 := ⟨n - 1, by omega⟩
    obtain rfl : i = Q := by omega
    rw [f_Fu_findRound_L91_s, eQ, if_pos (nI_le (Nat.le_refl _) (by omega))]
    exact ⟨_, _, rfl⟩
  | succ k ih =>
    intro n i hn hi
    obtain ⟨n', rfl⟩ : ∃ m, n = m + 1 := ⟨n - 1, by omega⟩
    have hm := fs_mono fl lo N D K S i
    have e : fs fl lo N D K (S + (i + 1)) = fs fl lo N D K (S + i) + fls fl lo N D K N 0 (vs fl lo N D K (S + i)) := rfl
    rw [f_Fu_findRound_L91_s, eQ, if_neg (nI_ge (by omega) (by omega)), c_after h hD hK _ (vs_le fl lo N D K _), z_obs, nI_1, nI_add, show fs fl lo N D K (S + i) - fs fl lo N D K S + fls fl lo N D K N 0 (vs fl lo N D K (S + i)) = fs fl lo N D K (S + (i + 1)) - fs fl lo N D K S by omega]
    exact ih n' (i + 1) (by omega) (by omega)
end ROU
theorem pl_round (X : Nat → Int32) (Y ri rl rf : Nat → Nat → Int32) (im : Nat → Option Nat) (vi vl vf : Nat → Nat → Int32) (U : Nat → Int32) (V : Nat → Nat → Int32) (Z : Nat → Int64) (p0 : Int32) (h : Rel X Y ri rl rf im vi vl vf U V Z) : ∃ (out : Int32 × Int32 × Int32 × Int32 × (Nat → Int32)) (mout : Int32 × (Nat → Int32) × (Nat → Int32)), f_Ye_round (X 0) (X 1) (X 2) (Y 0) (Y 1) (X 28) (X 29) (X 30) (Y 6) p0 = some out ∧ f_Mo_round (V 0) (V 8) (V 9) p0 = some mout ∧ out.1 = mout.1 ∧ Rel (va_up (va_up (va_up X 28 out.2.1) 29 out.2.2.1) 30 out.2.2.2.1) (va_up Y 6 out.2.2.2.2) ri rl rf im vi vl vf U (va_up (va_up V 8 mout.2.1) 9 mout.2.2) Z := by
  have h0 := h
  obtain ⟨⟨hB, hV⟩, hT, hH, hl0, hS, hI⟩ := h
  obtain ⟨N, fl, lo, D, K, T, v, hM, hW⟩ := hV.out
  have hC := hB.cw hM
  obtain ⟨b0, b1, b2, -⟩ := id hB
  obtain ⟨w1, w2, w3, w4, w5, w6, w7, w8⟩ := id hW
  have x1 : X 1 = nI D := b1.symm.trans w5
  have x2 : X 2 = nI K := b2.symm.trans w6
  by_cases hp : 0 ≤ p0 ∧ p0 ≤ 2
  · obtain ⟨i, j, hij, hj, e⟩ := pigeon 1000 (vs fl lo N D K) (fun i _ => by have := vs_le fl lo N D K i; omega)
    obtain ⟨P, hP, ⟨S, hS1, eS⟩, hd⟩ := firstTwice (vs fl lo N D K) j ⟨i, hij, e⟩
    obtain ⟨z1, g0, f1, f2⟩ := c_wipe 1000 FU 0 (Y 6) (by decide) (by decide) (fun v hv => absurd hv (by omega))
    have f1' : f_Fu_findRound_L2 FU (0 : Int32) (Y 6) = some (z1, g0) := f1
    obtain ⟨z2, m0, k1, k2⟩ := m_wipe 1000 FU 0 (V 8) (by decide) (by decide) (fun v hv => absurd hv (by omega))
    have k1' : f_Mo_round_L13 FU (0 : Int32) (V 8) = some (z2, m0) := k1
    obtain ⟨F', g1, c1, c2⟩ := c_round hC w1 w2 (by omega) hS1 eS hd P FU 0 (X 30) g0 (by unfold FU; omega) (by omega) (fun j hj => absurd hj (by omega)) (fun v hv _ => f2 v hv)
    have c1' : f_Fu_findRound_L29 (X 0) (nI D) (nI K) (Y 0) (Y 1) FU (nI K) (0 : Int32) (X 30) g0 = _ := c1
    obtain ⟨m1, m2, d1, d2, d3⟩ := m_round hM w1 w2 w5 w6 (by omega) hS1 eS hd P FU 0 m0 (V 9) (by unfold FU; omega) (by omega) (fun j hj => absurd hj (by omega)) (fun v hv _ => k2 v hv)
    have d1' : f_Mo_round_L47 (V 0) FU (nI K) (0 : Int32) (0 : Int32) m0 (V 9) = _ := d1
    have hvP := vs_le fl lo N D K P
    obtain ⟨a, b, e1⟩ := c_again hC w1 w2 (nI (vs fl lo N D K P), nI P, F', g1) (nI S) (S := S) (Q := P - S) (by omega) (z_sub (by omega)) (P - S) FU 0 (by unfold FU; omega) (by omega)
    have e1' : f_Fu_findRound_L91 (X 0) (nI D) (nI K) (Y 0) (Y 1) (nI (vs fl lo N D K P), nI P, F', g1) (nI S) FU (nI (vs fl lo N D K P)) (0 : Int32) (0 : Int32) = some (a, b, nI (fs fl lo N D K P - fs fl lo N D K S)) := by
      rw [show S + (P - S) = P by omega, Nat.add_zero, Nat.sub_self, eS] at e1; exact e1
    have hfs := fs_mono fl lo N D K S (P - S)
    rw [show S + (P - S) = P by omega] at hfs
    have ec : f_Fu_findRound (X 30) (Y 6) (X 0) (X 1) (X 2) (Y 0) (Y 1) = some (nI S, nI (P - S), nI (fs fl lo N D K P - fs fl lo N D K S), g1) := by
      rw [f_Fu_findRound, f1', z_obs, x1, x2, c1', z_obs, c_mult (by omega)]
      dsimp only
      rw [c2, z_obs, e1', z_obs, z_sub (show S ≤ P by omega)]
    have em : ∀ q : Int32, 0 ≤ q ∧ q ≤ 2 → f_Mo_round (V 0) (V 8) (V 9) q = if q = 0 then some (nI S, m1, m2) else if q = (1 : Int32) then some (nI (P - S), m1, m2) else some (nI (fs fl lo N D K P - fs fl lo N D K S), m1, m2) := by
      intro q hq
      rw [f_Mo_round, mIn, if_pos hq, z_obs, if_neg (by decide), k1', z_obs, if_neg (by decide), show (14 : Int32).toNatClampNeg = 14 from rfl, w6, d1', z_obs, if_neg (ixn (by omega) (by decide)), if_neg (ixn (by omega) (by decide)), if_neg (ixn (by omega) (by decide)), nI_clamp (by omega)]
      dsimp only
      rw [d2, d3, z_sub (show S ≤ P by omega), z_sub hfs]
    refine ⟨(if p0 = 0 then nI S else if p0 = (1 : Int32) then nI (P - S) else nI (fs fl lo N D K P - fs fl lo N D K S), nI S, nI (P - S), nI (fs fl lo N D K P - fs fl lo N D K S), g1), (if p0 = 0 then nI S else if p0 = (1 : Int32) then nI (P - S) else nI (fs fl lo N D K P - fs fl lo N D K S), m1, m2), ?_, ?_, rfl, ⟨hB, hV⟩, hT, hH, hl0, hS, hI⟩
    · rw [f_Ye_round, isOut, if_pos hp, z_obs, if_pos rfl, ec, z_obs]
      by_cases q0 : p0 = 0
      · simp only [if_pos q0]
      · by_cases q1 : p0 = 1
        · simp only [if_neg q0, if_pos q1]
        · simp only [if_neg q0, if_neg q1]
    · rw [em p0 hp]
      by_cases q0 : p0 = 0
      · simp only [if_pos q0]
      · by_cases q1 : p0 = 1
        · simp only [if_neg q0, if_pos q1]
        · simp only [if_neg q0, if_neg q1]
  · refine ⟨(-1, X 28, X 29, X 30, Y 6), (-1, V 8, V 9), ?_, ?_, rfl, ?_⟩
    · rw [f_Ye_round, isOut, if_neg hp]; rfl
    · rw [f_Mo_round, mIn, if_neg hp]; rfl
    · simp only [vu_self]; exact h0
