/-! ===== THE TEXT: its tokens ===== -/
def dig (c : Nat → Int32) (i : Nat) : Bool := decide ((48 : Int32) ≤ c i ∧ c i ≤ 57)
def dv (c : Nat → Int32) (i : Nat) : Nat := (c i).toNatClampNeg - 48
theorem dig_v {c : Nat → Int32} {i : Nat} (h : dig c i = true) : dv c i ≤ 9 ∧ c i = nI (48 + dv c i) := by
  obtain ⟨h1, h2⟩ := of_decide_eq_true h
  obtain ⟨j, hj, e⟩ := nI_rng (x := c i) 57 (by decide) ⟨Int32.le_trans (by decide) h1, h2⟩
  have h3 : 48 ≤ j := by
    rw [e] at h1
    exact (nI_leI (a := 48) (by decide) (by omega)).mp h1
  unfold dv
  rw [e, nI_clamp (by omega)]
  exact ⟨by omega, by congr 1; omega⟩
/-- where a row of figures ends, what it comes to (no further than above 999) -/
def rend (c : Nat → Int32) : Nat → Nat → Nat
  | 0, p => p
  | k + 1, p => if dig c p = true then rend c k (p + 1) else p
def vsat (c : Nat → Int32) : Nat → Nat → Nat → Nat
  | 0, _, v => v
  | k + 1, p, v => if dig c p = true then vsat c k (p + 1) (if v ≤ 999 then 10 * v + dv c p else v) else v
theorem rend_ge (c : Nat → Int32) : ∀ k p, p ≤ rend c k p ∧ rend c k p ≤ p + k
  | 0, p => ⟨Nat.le_refl _, Nat.le_refl _⟩
  | k + 1, p => by
    have := rend_ge c k (p + 1)
    rw [rend]; split <;> omega
theorem vsat_le (c : Nat → Int32) : ∀ k p v, v ≤ 10000 → vsat c k p v ≤ 10000
  | 0, _, _, h => h
  | k + 1, p, v, h => by
    rw [vsat]
    by_cases hd : dig c p = true
    · rw [if_pos hd]
      have := (dig_v hd).1
      exact vsat_le c k (p + 1) _ (by split <;> omega)
    · rw [if_neg hd]; exact h
theorem vsat_big (c : Nat → Int32) : ∀ k p v, 999 < v → vsat c k p v = v
  | 0, _, _, _ => rfl
  | k + 1, p, v, h => by
    rw [vsat, if_neg (show ¬ v ≤ 999 by omega), vsat_big c k (p + 1) v h]; split <;> rfl
/-- the first letter from p on that is no blank -/
def sk (c : Nat → Int32) : Nat → Nat → Nat
  | 0, p => p
  | k + 1, p => if c p = 32 then sk c k (p + 1) else p
theorem sk_ge (c : Nat → Int32) : ∀ k p, p ≤ sk c k p ∧ sk c k p ≤ p + k
  | 0, p => ⟨Nat.le_refl _, Nat.le_refl _⟩
  | k + 1, p => by
    have := sk_ge c k (p + 1)
    rw [sk]; split <;> omega
theorem sk_no (c : Nat → Int32) : ∀ k p, sk c k p < p + k → ¬ c (sk c k p) = 32
  | 0, p, h => absurd h (by rw [sk]; omega)
  | k + 1, p, h => by
    rw [sk] at h ⊢
    by_cases e : c p = 32
    · rw [if_pos e] at h ⊢; exact sk_no c k (p + 1) (by omega)
    · rw [if_neg e]; exact e
def sp (c : Nat → Int32) (M p : Nat) : Nat := sk c (M - p) p
def te (c : Nat → Int32) (M s : Nat) : Nat := if dig c s = true then rend c (M - s) s else s + 1
def tv (c : Nat → Int32) (M s : Nat) : Nat := vsat c (M - s) s 0
def ts (c : Nat → Int32) (M s : Nat) : Int32 := if dig c s = true then (if 999 < tv c M s then 3 else if c s = 48 ∧ s + 1 < te c M s then 3 else 1) else if c s = 105 ∨ c s = 100 ∨ c s = 99 ∨ c s = 101 ∨ c s = 59 then c s else 3
theorem te_rng (c : Nat → Int32) {M s : Nat} (h : s < M) : s < te c M s ∧ te c M s ≤ M := by
  unfold te
  by_cases hd : dig c s = true
  · rw [if_pos hd]
    obtain ⟨k, hk⟩ : ∃ k, M - s = k + 1 := ⟨M - s - 1, by omega⟩
    have := rend_ge c k (s + 1)
    rw [hk, rend, if_pos hd]; omega
  · rw [if_neg hd]; omega
theorem sp_rng (c : Nat → Int32) {M p : Nat} (h : p ≤ M) : p ≤ sp c M p ∧ sp c M p ≤ M := by
  have := sk_ge c (M - p) p
  unfold sp; omega
theorem sp_no (c : Nat → Int32) {M p : Nat} (h : p ≤ M) (h2 : sp c M p < M) : ¬ c (sp c M p) = 32 := sk_no c (M - p) p (by unfold sp at h2; omega)
theorem dig_in {c : Nat → Int32} {i : Nat} : f_Mo_in (c i) 48 57 = some (if dig c i = true then 1 else 0) := by
  rw [mIn]
  by_cases h : (48 : Int32) ≤ c i ∧ c i ≤ 57
  · rw [if_pos h, if_pos (show dig c i = true from decide_eq_true h)]
  · rw [if_neg h, if_neg (show ¬ dig c i = true from fun q => h (of_decide_eq_true q))]
section TOK
variable {c ya : Nat → Int32} {M : Nat}
theorem m_skip (hM : M ≤ 120) : ∀ k n p, k < n → p + k = M → f_Mo_scan_L0 (nI M) c n (nI p) = some (nI (sk c k p)) := by
  intro k
  induction k with
  | zero =>
    intro n p hn hp
    obtain ⟨n, rfl⟩ : ∃ q, n = q + 1 := ⟨n - 1, by omega⟩
    rw [f_Mo_scan_L0_s, if_pos (nI_le (by omega) (by omega)), sk]
  | succ k ih =>
    intro n p hn hp
    obtain ⟨n, rfl⟩ : ∃ q, n = q + 1 := ⟨n - 1, by omega⟩
    rw [f_Mo_scan_L0_s, if_neg (nI_ge (by omega) (by omega)), if_neg (ixn (by omega) (by decide)), nI_clamp (by omega), sk, nI_1]
    by_cases e : c p = 32
    · rw [if_pos e, if_pos e]; exact ih n (p + 1) (by omega) (by omega)
    · rw [if_neg e, if_neg e]
theorem v_step {v : Nat} (hv : v ≤ 999) {p : Nat} (hd : dig c p = true) : ((10 : Int32) * nI v + c p) - 48 = nI (10 * v + dv c p) := by
  obtain ⟨h1, h2⟩ := dig_v hd
  rw [h2, show (10 : Int32) * nI v = nI (10 * v) from z_mul 10 v, nI_add, show nI (10 * v + (48 + dv c p)) - (48 : Int32) = nI (10 * v + (48 + dv c p) - 48) from z_sub (b := 48) (by omega)]
  congr 1; omega
theorem v_step2 {v : Nat} (hv : v ≤ 999) {p : Nat} (hd : dig c p = true) : (nI v * (10 : Int32) + c p) - 48 = nI (10 * v + dv c p) := by
  obtain ⟨h1, h2⟩ := dig_v hd
  rw [h2, show nI v * (10 : Int32) = nI (v * 10) from z_mul v 10, nI_add, show nI (v * 10 + (48 + dv c p)) - (48 : Int32) = nI (v * 10 + (48 + dv c p) - 48) from z_sub (b := 48) (by omega)]
  congr 1; omega
theorem m_num (hM : M ≤ 120) : ∀ k n p v, k < n → p + k = M → v ≤ 10000 → f_Mo_scan_L106 (nI M) c n (nI p) (nI v) = some (nI (rend c k p), nI (vsat c k p v)) := by
  intro k
  induction k with
  | zero =>
    intro n p v hn hp hv
    obtain ⟨n, rfl⟩ : ∃ q, n = q + 1 := ⟨n - 1, by omega⟩
    rw [f_Mo_scan_L106_s, if_pos (nI_le (by omega) (by omega)), rend, vsat]
  | succ k ih =>
    intro n p v hn hp hv
    obtain ⟨n, rfl⟩ : ∃ q, n = q + 1 := ⟨n - 1, by omega⟩
    rw [f_Mo_scan_L106_s, if_neg (nI_ge (by omega) (by omega)), if_neg (ixn (by omega) (by decide)), nI_clamp (by omega), dig_in, z_obs, rend, vsat, nI_1]
    by_cases hd : dig c p = true
    · rw [if_pos hd, if_pos hd, if_pos hd, if_neg (by decide)]
      have := (dig_v hd).1
      by_cases hc : v ≤ 999
      · rw [if_pos (show nI v ≤ (999 : Int32) from nI_le (b := 999) hc (by decide)), if_pos hc, v_step hc hd]
        exact ih n (p + 1) _ (by omega) (by omega) (by omega)
      · rw [if_neg (show ¬ nI v ≤ (999 : Int32) from nI_ge (a := 999) (by omega) (by omega)), if_neg hc]
        exact ih n (p + 1) _ (by omega) (by omega) hv
    · rw [if_neg hd, if_neg hd, if_neg hd, if_pos rfl]
theorem m_scan_end (hM : M ≤ 120) {p : Nat} (hp : p ≤ M) (x : Int32) (hs : sp c M p = M) : f_Mo_scan (nI M) (nI p) x c = some (nI M, nI M, 2, x) := by
  have e : f_Mo_scan_L0 (nI M) c FU (nI p) = some (nI M) := by
    rw [m_skip hM (M - p) FU p (by unfold FU; omega) (by omega)]
    exact congrArg (fun z => some (nI z)) hs
  rw [f_Mo_scan, e, z_obs, if_pos (nI_le (Nat.le_refl _) (by omega)), if_pos rfl]
theorem m_scan_tok (hM : M ≤ 120) {p s : Nat} (hp : p ≤ M) (x : Int32) (es : sp c M p = s) (hs : s < M) : f_Mo_scan (nI M) (nI p) x c = some (nI (te c M s), nI s, ts c M s, if dig c s = true then nI (tv c M s) else x) := by
  have e : f_Mo_scan_L0 (nI M) c FU (nI p) = some (nI s) := by
    rw [m_skip hM (M - p) FU p (by unfold FU; omega) (by omega)]
    exact congrArg (fun z => some (nI z)) es
  have hne : ¬ nI s = nI M := fun q => absurd ((nI_eq (by omega) (by omega)).mp q) (by omega)
  have hn : f_Mo_scan_L106 (nI M) c FU (nI s) (0 : Int32) = some (nI (rend c (M - s) s), nI (vsat c (M - s) s 0)) := m_num hM (M - s) FU s 0 (by unfold FU; omega) (by omega) (by omega)
  have hb := vsat_le c (M - s) s 0 (by omega)
  have hr := rend_ge c (M - s) s
  rw [f_Mo_scan, e, z_obs, if_neg (nI_ge hs (by omega)), if_neg (ixn (by omega) (by decide)), if_neg hne, nI_clamp (by omega), dig_in, z_obs, hn, z_obs, nI_1]
  unfold ts te tv
  by_cases hd : dig c s = true
  · rw [if_pos hd, if_neg (by decide), if_pos hd, if_pos hd, if_pos hd]
    dsimp only
    by_cases hv : 999 < vsat c (M - s) s 0
    · rw [if_pos (show (999 : Int32) < _ from nI_lt (a := 999) hv (by omega)), if_pos hv]
    · rw [if_neg (show ¬ (999 : Int32) < _ from nI_nlt (a := 999) (by omega) (by decide)), if_neg hv]
      by_cases h0 : c s = 48
      · rw [if_pos h0]
        by_cases hl : rend c (M - s) s ≤ s + 1
        · rw [if_pos (nI_le hl (by omega)), if_neg (fun q => absurd q.2 (by omega))]
        · rw [if_neg (nI_ge (by omega) (by omega)), if_pos ⟨h0, by omega⟩]
      · rw [if_neg h0, if_neg (fun q => h0 q.1)]
  · rw [if_neg hd, if_pos rfl, if_neg hd, if_neg hd, if_neg hd]
    by_cases h1 : c s = 105
    · rw [if_pos h1, if_pos (.inl h1)]
    · rw [if_neg h1]
      by_cases h2 : c s = 100
      · rw [if_pos h2, if_pos (.inr (.inl h2))]
      · rw [if_neg h2]
        by_cases h3 : c s = 99
        · rw [if_pos h3, if_pos (.inr (.inr (.inl h3)))]
        · rw [if_neg h3]
          by_cases h4 : c s = 101
          · rw [if_pos h4, if_pos (.inr (.inr (.inr (.inl h4))))]
          · rw [if_neg h4]
            by_cases h5 : c s = 59
            · rw [if_pos h5, if_pos (.inr (.inr (.inr (.inr h5))))]
            · rw [if_neg h5, if_neg (fun q => by rcases q with q | q | q | q | q <;> contradiction)]
theorem c_let (hM : M ≤ 120) (hc : ∀ i, i < M → ya i = c i) {p : Nat} (hp : p < M) : f_Te_letterAt (nI M) ya (nI p) = some (c p) := by
  have e : (if (120 : Int32) < nI M then (120 : Int32) else nI M) - (1 : Int32) = nI (M - 1) := by
    rw [if_neg (show ¬ (120 : Int32) < nI M from nI_nlt (a := 120) (by omega) (by decide))]
    exact z_sub (b := 1) (by omega)
  rw [f_Te_letterAt, e, isOut, if_pos (nI_rng' (M := M - 1) (by omega) (by omega)), z_obs, if_pos rfl, if_neg (ixn (by omega) (by decide)), nI_clamp (by omega), hc p hp]
theorem c_fig (hM : M ≤ 120) (hc : ∀ i, i < M → ya i = c i) {p : Nat} (hp : p < M) : f_Te_isFigure (nI M) ya (nI p) = some (if dig c p = true then 1 else 0) := by
  rw [f_Te_isFigure, c_let hM hc hp, z_obs]
  by_cases h1 : c p < 48
  · rw [if_pos h1, if_neg (show ¬ dig c p = true from fun q => Int32.not_le.mpr h1 (of_decide_eq_true q).1)]
  · rw [if_neg h1]
    by_cases h2 : (57 : Int32) < c p
    · rw [if_pos h2, if_neg (show ¬ dig c p = true from fun q => Int32.not_le.mpr h2 (of_decide_eq_true q).2)]
    · rw [if_neg h2, if_pos (show dig c p = true from decide_eq_true ⟨Int32.not_lt.mp h1, Int32.not_lt.mp h2⟩)]
theorem c_end_L (hM : M ≤ 120) (hc : ∀ i, i < M → ya i = c i) : ∀ k n p, k < n → p + k = M → f_Te_endOfToken_L12 (nI M) ya n (nI p) = some (nI (rend c k p)) := by
  intro k
  induction k with
  | zero =>
    intro n p hn hp
    obtain ⟨n, rfl⟩ : ∃ q, n = q + 1 := ⟨n - 1, by omega⟩
    rw [f_Te_endOfToken_L12_s, if_pos (nI_le (by omega) (by omega)), rend]
  | succ k ih =>
    intro n p hn hp
    obtain ⟨n, rfl⟩ : ∃ q, n = q + 1 := ⟨n - 1, by omega⟩
    rw [f_Te_endOfToken_L12_s, if_neg (nI_ge (by omega) (by omega)), c_fig hM hc (by omega), z_obs, rend, nI_1]
    by_cases hd : dig c p = true
    · rw [if_pos hd, if_pos hd, if_neg (by decide)]; exact ih n (p + 1) (by omega) (by omega)
    · rw [if_neg hd, if_neg hd, if_pos rfl]
theorem c_end (hM : M ≤ 120) (hc : ∀ i, i < M → ya i = c i) {s : Nat} (hs : s < M) : f_Te_endOfToken (nI M) ya (nI s) = some (nI (te c M s)) := by
  rw [f_Te_endOfToken, c_fig hM hc hs, z_obs, nI_1]
  unfold te
  by_cases hd : dig c s = true
  · rw [if_pos hd, if_neg (by decide), c_end_L hM hc (M - (s + 1)) FU (s + 1) (by unfold FU; omega) (by omega), z_obs, if_pos hd, show M - s = (M - (s + 1)) + 1 by omega, rend, if_pos hd]
  · rw [if_neg hd, if_pos rfl, if_neg hd]
theorem c_num_L (hM : M ≤ 120) (hc : ∀ i, i < M → ya i = c i) : ∀ k n p v, k < n → p + k = M → v ≤ 999 → ∃ z, f_Te_numberAt_L24 (nI M) ya (nI (rend c k p)) n (nI v) (nI p) = some z ∧ (vsat c k p v ≤ 999 → ∃ a, z = .inl (nI (vsat c k p v), a)) ∧ (999 < vsat c k p v → z = .inr (-1)) := by
  intro k
  induction k with
  | zero =>
    intro n p v hn hp hv
    obtain ⟨n, rfl⟩ : ∃ q, n = q + 1 := ⟨n - 1, by omega⟩
    rw [f_Te_numberAt_L24_s, rend, if_pos (nI_le (Nat.le_refl _) (by omega)), vsat]
    exact ⟨_, rfl, fun _ => ⟨_, rfl⟩, fun h => absurd h (by omega)⟩
  | succ k ih =>
    intro n p v hn hp hv
    obtain ⟨n, rfl⟩ : ∃ q, n = q + 1 := ⟨n - 1, by omega⟩
    rw [f_Te_numberAt_L24_s, rend, vsat]
    by_cases hd : dig c p = true
    · have hr := rend_ge c k (p + 1)
      have h9 := (dig_v hd).1
      rw [if_pos hd, if_pos hd, if_neg (nI_ge (by omega) (by omega)), c_let hM hc (by omega), z_obs, v_step2 hv hd, if_pos hv, nI_1]
      by_cases hb : 10 * v + dv c p ≤ 999
      · rw [if_pos (show _ ≤ (999 : Int32) from nI_le (b := 999) hb (by decide))]
        exact ih n (p + 1) _ (by omega) (by omega) hb
      · rw [if_neg (show ¬ _ ≤ (999 : Int32) from nI_ge (a := 999) (by omega) (by omega)), vsat_big c k (p + 1) _ (by omega)]
        exact ⟨_, rfl, fun h => absurd h hb, fun _ => rfl⟩
    · rw [if_neg hd, if_neg hd, if_pos (nI_le (Nat.le_refl _) (by omega))]
      exact ⟨_, rfl, fun _ => ⟨_, rfl⟩, fun h => absurd h (by omega)⟩
theorem c_num (hM : M ≤ 120) (hc : ∀ i, i < M → ya i = c i) {s : Nat} (hs : s < M) (hd : dig c s = true) : f_Te_numberAt (nI M) ya (nI s) (nI (te c M s)) = some (if ts c M s = 1 then nI (tv c M s) else -1) := by
  have et : te c M s = rend c (M - s) s := by unfold te; rw [if_pos hd]
  have hr := rend_ge c (M - s) s
  obtain ⟨z, e1, e2, e3⟩ := c_num_L hM hc (M - s) FU s 0 (by unfold FU; omega) (by omega) (by omega)
  have e1' : f_Te_numberAt_L24 (nI M) ya (nI (te c M s)) FU (0 : Int32) (nI s) = some z := by rw [et]; exact e1
  have ets : ts c M s = (if 999 < tv c M s then 3 else if c s = 48 ∧ s + 1 < te c M s then 3 else 1) := by unfold ts; rw [if_pos hd]
  rw [f_Te_numberAt, c_let hM hc hs, z_obs, e1', z_obs, nI_1]
  by_cases hv : 999 < tv c M s
  · obtain rfl := e3 hv
    rw [ets, if_pos hv, if_neg (show ¬ (3 : Int32) = 1 by decide)]
    by_cases h0 : c s = 48
    · rw [if_pos h0]
      by_cases hl : te c M s ≤ s + 1
      · rw [if_pos (nI_le hl (by omega))]; rfl
      · rw [if_neg (nI_ge (by omega) (by omega))]
    · rw [if_neg h0]; rfl
  · obtain ⟨a, rfl⟩ := e2 (by unfold tv at hv; omega)
    by_cases h0 : c s = 48
    · rw [if_pos h0]
      by_cases hl : te c M s ≤ s + 1
      · have e1 : ts c M s = 1 := by rw [ets, if_neg hv, if_neg (fun q => absurd q.2 (by omega))]
        rw [if_pos (nI_le hl (by omega)), if_pos e1]; rfl
      · have e1 : ts c M s = 3 := by rw [ets, if_neg hv, if_pos ⟨h0, by omega⟩]
        rw [if_neg (nI_ge (by omega) (by omega)), if_neg (by rw [e1]; decide)]
    · have e1 : ts c M s = 1 := by rw [ets, if_neg hv, if_neg (fun q => h0 q.1)]
      rw [if_neg h0, if_pos e1]; rfl
end TOK
