/-! ===== ODDS ===== -/
/-- a level by the whole inflow, by the half one -/
def lvW (fl lo : Nat → Nat) (N D t v : Nat) : Int := (v : Int) + fl (t % N) - lo (v / 100) - D
def lvH (fl lo : Nat → Nat) (N D t v : Nat) : Int := (v : Int) + (fl (t % N) / 2 : Nat) - lo (v / 100) - D
/-- the weight of all ways by which none of k periods fails -/
def wt (fl lo : Nat → Nat) (N D K x : Nat) : Nat → Nat → Nat → Nat
  | 0, _, _ => 1
  | k + 1, t, v => (if lvW fl lo N D t v < 0 then 0 else (10 - x) * wt fl lo N D K x k (t + 1) (hl (lvW fl lo N D t v) K)) + (if lvH fl lo N D t v < 0 then 0 else x * wt fl lo N D K x k (t + 1) (hl (lvH fl lo N D t v) K))
/-- the weight of one way -/
def wm (fl lo : Nat → Nat) (N D K x : Nat) : Nat → Nat → Nat → Nat → Nat
  | _, 0, _, _ => 1
  | h, k + 1, t, v => if h % 2 = 1 then (if lvH fl lo N D t v < 0 then 0 else x * wm fl lo N D K x (h / 2) k (t + 1) (hl (lvH fl lo N D t v) K)) else (if lvW fl lo N D t v < 0 then 0 else (10 - x) * wm fl lo N D K x (h / 2) k (t + 1) (hl (lvW fl lo N D t v) K))
theorem sm_pair (f : Nat → Nat) : ∀ n, sma f (2 * n) = sma (fun g => f (2 * g)) n + sma (fun g => f (2 * g + 1)) n
  | 0 => rfl
  | n + 1 => by
    have h := sm_pair f n
    rw [show 2 * (n + 1) = 2 * n + 1 + 1 by omega, sma, sma, h, sma, sma]; omega
theorem sm_mul (c : Nat) (f : Nat → Nat) : ∀ n, sma (fun g => c * f g) n = c * sma f n
  | 0 => rfl
  | n + 1 => by rw [sma, sma, sm_mul c f n, Nat.mul_add]
theorem sm_0 : ∀ n, sma (fun _ => 0) n = 0
  | 0 => rfl
  | n + 1 => by rw [sma, sm_0 n]
theorem wm_sum (fl lo : Nat → Nat) (N D K x : Nat) : ∀ k t v, sma (fun h => wm fl lo N D K x h k t v) (2 ^ k) = wt fl lo N D K x k t v := by
  intro k
  induction k with
  | zero => intro t v; rfl
  | succ k ih =>
    intro t v
    rw [Nat.pow_succ, Nat.mul_comm, sm_pair]
    have e0 : ∀ g, wm fl lo N D K x (2 * g) (k + 1) t v = if lvW fl lo N D t v < 0 then 0 else (10 - x) * wm fl lo N D K x g k (t + 1) (hl (lvW fl lo N D t v) K) := by
      intro g
      rw [wm, if_neg (by omega), show 2 * g / 2 = g by omega]
    have e1 : ∀ g, wm fl lo N D K x (2 * g + 1) (k + 1) t v = if lvH fl lo N D t v < 0 then 0 else x * wm fl lo N D K x g k (t + 1) (hl (lvH fl lo N D t v) K) := by
      intro g
      rw [wm, if_pos (by omega), show (2 * g + 1) / 2 = g by omega]
    simp only [e0, e1]
    rw [wt]
    by_cases hW : lvW fl lo N D t v < 0
    · simp only [if_pos hW, sm_0]
      by_cases hH : lvH fl lo N D t v < 0
      · simp only [if_pos hH, sm_0]
      · simp only [if_neg hH, sm_mul, ih]
    · simp only [if_neg hW, sm_mul, ih]
      by_cases hH : lvH fl lo N D t v < 0
      · simp only [if_pos hH, sm_0]
      · simp only [if_neg hH, sm_mul, ih]
theorem wt_le (fl lo : Nat → Nat) (N D K : Nat) {x : Nat} (hx : x ≤ 10) : ∀ k t v, wt fl lo N D K x k t v ≤ 10 ^ k := by
  intro k
  induction k with
  | zero => intro t v; exact Nat.le_refl _
  | succ k ih =>
    intro t v
    have a := ih (t + 1) (hl (lvW fl lo N D t v) K)
    have b := ih (t + 1) (hl (lvH fl lo N D t v) K)
    have a' := Nat.mul_le_mul (Nat.le_refl (10 - x)) a
    have b' := Nat.mul_le_mul (Nat.le_refl x) b
    have e : (10 - x) * 10 ^ k + x * 10 ^ k = 10 ^ k * 10 := by rw [← Nat.add_mul, show 10 - x + x = 10 by omega, Nat.mul_comm]
    rw [wt, Nat.pow_succ]
    split <;> split <;> omega
section ODD
variable {per : Int32} {inf los r : Nat → Int32} {N D K x : Nat} {fl lo : Nat → Nat}
theorem lvH_rng (h : CW per inf los N fl lo) (t : Nat) {v : Nat} (hv : v ≤ 999) (hD : D ≤ 99) : -100000 ≤ lvH fl lo N D t v ∧ lvH fl lo N D t v ≤ 100000 :=
  lev_rng hv (Nat.le_trans (Nat.div_le_self _ _) (h.2.2.2.1 _ (Nat.lt_of_lt_of_le (Nat.mod_lt _ h.1) h.2.1)).1) (h.2.2.2.2 _ (by omega)).1 hD
theorem c_lvl (h : CW per inf los N fl lo) {v : Nat} (hv : v ≤ 999) (f d : Nat) : f_Ba_levelWith los (nI f) (nI v) (nI d) = some (iI ((v : Int) + f - lo (v / 100) - d)) := by
  rw [f_Ba_levelWith, c_loss h hv, z_obs, i_lev]
theorem c_wt (h : CW per inf los N fl lo) (hD : D ≤ 99) (hK : K ≤ 999) (hx : x ≤ 10) : ∀ k n t v, k < n → k ≤ 8 → t + k < 100000 → v ≤ K → f_Ye_weightWithoutFail n per (nI D) (nI K) inf los (nI t) (nI v) (nI k) (nI x) = some (nI (wt fl lo N D K x k t v)) := by
  intro k
  induction k with
  | zero =>
    intro n t v hn hk ht hv
    obtain ⟨m, rfl⟩ : ∃ m, n = m + 1 := ⟨n - 1, by omega⟩
    rw [f_Ye_weightWithoutFail_s, isOut, if_neg (by decide)]; rfl
  | succ k ih =>
    intro n t v hn hk ht hv
    obtain ⟨m, rfl⟩ : ∃ m, n = m + 1 := ⟨n - 1, by omega⟩
    have hr : -100000 ≤ lvW fl lo N D t v ∧ lvW fl lo N D t v ≤ 100000 := h.rng t (v := v) (d := D) (by omega) hD
    have hq := lvH_rng h t (v := v) (D := D) (by omega) hD
    have hf := (h.2.2.2.1 _ (Nat.lt_of_lt_of_le (Nat.mod_lt t h.1) h.2.1)).1
    have e2 : nI (fl (t % N)) / (2 : Int32) = nI (fl (t % N) / 2) := z_div (d := 2) (by omega) (by decide) (by decide)
    have ew : f_Ba_levelWith los (nI (fl (t % N))) (nI v) (nI D) = some (iI (lvW fl lo N D t v)) := c_lvl h (by omega) _ _
    have eh : f_Ba_levelWith los (nI (fl (t % N) / 2)) (nI v) (nI D) = some (iI (lvH fl lo N D t v)) := c_lvl h (by omega) _ _
    have hb : (1 : Int32) ≤ nI (k + 1) ∧ nI (k + 1) ≤ (8 : Int32) := ⟨nI_le (a := 1) (by omega) (by omega), nI_le (b := 8) (by omega) (by decide)⟩
    have e10 : (10 : Int32) - nI x = nI (10 - x) := z_sub (a := 10) hx
    have ihW := ih m (t + 1) (hl (lvW fl lo N D t v) K) (by omega) (by omega) (by omega) (hl_le _ _)
    have ihH := ih m (t + 1) (hl (lvH fl lo N D t v) K) (by omega) (by omega) (by omega) (hl_le _ _)
    rw [f_Ye_weightWithoutFail_s, isOut, if_pos hb, z_obs, if_pos rfl, c_inflow h (by omega), z_obs, e2, ew, z_obs, eh, nI_pred, nI_1, wt, e10]
    by_cases hW : lvW fl lo N D t v < 0
    · rw [if_pos ((iI_lt0 hr.1 hr.2).mpr hW), if_pos hW, z_obs]
      by_cases hH : lvH fl lo N D t v < 0
      · rw [if_pos ((iI_lt0 hq.1 hq.2).mpr hH), if_pos hH]; rfl
      · rw [if_neg (fun q => hH ((iI_lt0 hq.1 hq.2).mp q)), if_neg hH, min_hl (by omega) hq.2 hK, ihH, z_obs, Int32.zero_add, z_mul, Nat.zero_add]
    · rw [if_neg (fun q => hW ((iI_lt0 hr.1 hr.2).mp q)), if_neg hW, min_hl (by omega) hr.2 hK, ihW, z_obs, z_obs, Int32.zero_add, z_mul]
      by_cases hH : lvH fl lo N D t v < 0
      · rw [if_pos ((iI_lt0 hq.1 hq.2).mpr hH), if_pos hH]; rfl
      · rw [if_neg (fun q => hH ((iI_lt0 hq.1 hq.2).mp q)), if_neg hH, min_hl (by omega) hq.2 hK, ihH, z_obs, z_mul, nI_add]
theorem sh_i : ∀ i, i < 8 → ((nI i &&& 31).toBitVec.smod 32).toNat = i := by decide
theorem sh_1 : ∀ k, k < 9 → (1 : Int32) <<< (nI k &&& 31) = nI (2 ^ k) := by decide
theorem sh_bit {h i : Nat} (hh : h < 256) (hi : i < 8) : ((nI h >>> (nI i &&& 31)) &&& (1 : Int32)) = nI (h / 2 ^ i % 2) := by
  rw [pk_shrN (by omega) _ i (sh_i i hi)]
  have : h / 2 ^ i ≤ h := Nat.div_le_self _ _
  exact pk_andN (n := h / 2 ^ i) (by omega) (m := 1) 1 (by decide)
theorem lg_le0 {w : Nat} (hw : w < 2 ^ 63) : (lg_cmp (lN w) (0 : Int64) ≤ 0) ↔ w = 0 := by
  have e : (lN w > (0 : Int64)) ↔ 0 < w := pk_lLT (a := 0) (by decide) hw
  unfold lg_cmp
  by_cases h : w = 0
  · subst h
    rw [if_neg (fun q => absurd (e.mp q) (by omega))]
    constructor
    · intro _; rfl
    · intro _; decide
  · rw [if_pos (e.mpr (by omega))]
    exact ⟨fun q => absurd q (by decide), fun q => absurd q h⟩
theorem m_wm (h : MW r N fl lo) (hD : D ≤ 99) (hK : K ≤ 999) (eD : r 13 = nI D) (eK : r 14 = nI K) {T : Nat} (hT : T ≤ 999) (eT : r 25 = nI T) (hx : x ≤ 10) {H k : Nat} (hH : H < 256) (hk : k ≤ 8) : ∀ j n i v w, j < n → i + j = k → v ≤ K → w ≤ 10 ^ i → ∃ a b, f_Mo_weightOf_L15 r (nI H) (nI k) (nI x) n (nI v) (lN w) (nI i) = some (a, lN (w * wm fl lo N D K x (H / 2 ^ i) j (T + i) v), b) := by
  intro j
  induction j with
  | zero =>
    intro n i v w hn hi hv hw
    obtain ⟨m, rfl⟩ : ∃ m, n = m + 1 := ⟨n - 1, by omega⟩
    rw [f_Mo_weightOf_L15_s, if_pos (nI_le (by omega) (by omega)), wm, Nat.mul_one]
    exact ⟨_, _, rfl⟩
  | succ j ih =>
    intro n i v w hn hi hv hw
    obtain ⟨m, rfl⟩ : ∃ m, n = m + 1 := ⟨n - 1, by omega⟩
    have h63 : (10 : Nat) ^ i ≤ 10 ^ 8 := Nat.pow_le_pow_right (by decide) (by omega)
    have hw63 : w < 2 ^ 63 := by
      have : (10 : Nat) ^ 8 < 2 ^ 63 := by decide
      omega
    have hf := (h.2.2.2.1 _ (Nat.lt_of_lt_of_le (Nat.mod_lt (T + i) h.1) h.2.1)).1
    have hlo := (h.2.2.2.2 (v / 100) (by omega)).1
    have hr : -100000 ≤ lvW fl lo N D (T + i) v ∧ lvW fl lo N D (T + i) v ≤ 100000 := h.rng (T + i) (v := v) (d := D) (by omega) hD
    have hq : -100000 ≤ lvH fl lo N D (T + i) v ∧ lvH fl lo N D (T + i) v ≤ 100000 := lev_rng (by omega) (Nat.le_trans (Nat.div_le_self _ _) hf) hlo hD
    have e2 : nI (fl ((T + i) % N)) / (2 : Int32) = nI (fl ((T + i) % N) / 2) := z_div (d := 2) (by omega) (by decide) (by decide)
    have ew : f_Mo_rawBehind r (nI v) (nI (fl ((T + i) % N))) (nI D) = some (iI (lvW fl lo N D (T + i) v)) := m_raw h (by omega) _ _
    have eh : f_Mo_rawBehind r (nI v) (nI (fl ((T + i) % N) / 2)) (nI D) = some (iI (lvH fl lo N D (T + i) v)) := m_raw h (by omega) _ _
    have e10 : (10 : Int32) - nI x = nI (10 - x) := z_sub (a := 10) hx
    have hdd : H / 2 ^ i / 2 = H / 2 ^ (i + 1) := by rw [Nat.div_div_eq_div_mul, Nat.pow_succ]
    have zero : ∀ v', v' ≤ K → ∃ a b, f_Mo_weightOf_L15 r (nI H) (nI k) (nI x) m (nI v') (lN w * (0 : Int64)) (nI (i + 1)) = some (a, lN 0, b) := by
      intro v' hv'
      obtain ⟨a, b, e⟩ := ih m (i + 1) v' 0 (by omega) (by omega) hv' (Nat.zero_le _)
      rw [Nat.zero_mul] at e
      refine ⟨a, b, ?_⟩
      rw [show lN w * (0 : Int64) = lN 0 from (lN_mul w 0).trans (by rw [Nat.mul_zero])]
      exact e
    rw [f_Mo_weightOf_L15_s, if_neg (nI_ge (by omega) (by omega))]
    by_cases hw0 : w = 0
    · rw [if_pos ((lg_le0 hw63).mpr hw0), hw0, Nat.zero_mul]
      exact ⟨_, _, rfl⟩
    · rw [if_neg (fun q => hw0 ((lg_le0 hw63).mp q)), if_neg (by decide), show (25 : Int32).toNatClampNeg = 25 from rfl, eT, nI_add, m_flow h (by omega), z_obs, sh_bit hH (by omega), show (13 : Int32).toNatClampNeg = 13 from rfl, eD, show (14 : Int32).toNatClampNeg = 14 from rfl, eK, e2, ew, eh, e10, nI_l (n := 10 - x) (by omega), nI_l (n := x) (by omega), lN_mul, lN_mul, nI_1, z_obs, z_obs, m_kept hr.1 hr.2 hK, m_kept hq.1 hq.2 hK]
      have hpw : w * (10 - x) ≤ 10 ^ (i + 1) := by rw [Nat.pow_succ]; exact Nat.mul_le_mul hw (by omega)
      have hph : w * x ≤ 10 ^ (i + 1) := by rw [Nat.pow_succ]; exact Nat.mul_le_mul hw hx
      by_cases hb : H / 2 ^ i % 2 = 1
      · rw [if_pos (show nI (H / 2 ^ i % 2) = (1 : Int32) by rw [hb]; rfl), if_neg (by decide), if_neg (by decide), wm, if_pos hb]
        by_cases hc : lvH fl lo N D (T + i) v < 0
        · rw [if_neg (fun q => absurd ((iI_pos0 hq.1 hq.2).mp q) (by omega)), if_neg (by decide), z_obs, if_pos hc, Nat.mul_zero]
          exact zero _ (hl_le _ _)
        · rw [if_pos ((iI_pos0 hq.1 hq.2).mpr (by omega)), if_neg (by decide), z_obs, if_neg hc, hdd, ← Nat.mul_assoc]
          exact ih m (i + 1) _ _ (by omega) (by omega) (hl_le _ _) hph
      · have nb : ¬ nI (H / 2 ^ i % 2) = (1 : Int32) := fun q => hb ((nI_eq (b := 1) (by omega) (by decide)).mp q)
        rw [if_neg nb, if_pos rfl, if_neg (by decide), wm, if_neg hb]
        by_cases hc : lvW fl lo N D (T + i) v < 0
        · rw [if_neg (fun q => absurd ((iI_pos0 hr.1 hr.2).mp q) (by omega)), if_neg (by decide), z_obs, if_pos hc, Nat.mul_zero]
          exact zero _ (hl_le _ _)
        · rw [if_pos ((iI_pos0 hr.1 hr.2).mpr (by omega)), if_neg (by decide), z_obs, if_neg hc, hdd, ← Nat.mul_assoc]
          exact ih m (i + 1) _ _ (by omega) (by omega) (hl_le _ _) hpw
theorem m_weight (h : MW r N fl lo) (hD : D ≤ 99) (hK : K ≤ 999) (eD : r 13 = nI D) (eK : r 14 = nI K) {T v : Nat} (hT : T ≤ 999) (eT : r 25 = nI T) (hv : v ≤ K) (ev : r 26 = nI v) (hx : x ≤ 10) {H k : Nat} (hH : H < 256) (hk : k ≤ 8) : f_Mo_weightOf r (nI H) (nI k) (nI x) = some (lN (wm fl lo N D K x H k T v)) := by
  obtain ⟨a, b, e⟩ := m_wm h hD hK eD eK hT eT hx hH hk k FU 0 v 1 (by unfold FU; omega) (by omega) hv (Nat.le_refl _)
  rw [Nat.one_mul, Nat.pow_zero, Nat.div_one, Nat.add_zero] at e
  have e' : f_Mo_weightOf_L15 r (nI H) (nI k) (nI x) FU (nI v) (1 : Int64) (0 : Int32) = _ := e
  rw [f_Mo_weightOf, if_neg (by decide), show (26 : Int32).toNatClampNeg = 26 from rfl, ev, e']; rfl
theorem m_odsum (h : MW r N fl lo) (hD : D ≤ 99) (hK : K ≤ 999) (eD : r 13 = nI D) (eK : r 14 = nI K) {T v : Nat} (hT : T ≤ 999) (eT : r 25 = nI T) (hv : v ≤ K) (ev : r 26 = nI v) (hx : x ≤ 10) {k : Nat} (hk : k ≤ 8) : ∀ j n H, j < n → H + j = 2 ^ k → ∃ b, f_Mo_odds_L37 r (nI k) (nI x) n (lN (sma (fun h => wm fl lo N D K x h k T v) H)) (nI H) = some (lN (sma (fun h => wm fl lo N D K x h k T v) (2 ^ k)), b) := by
  have h8 : 2 ^ k ≤ 256 := Nat.pow_le_pow_right (n := 2) (by decide) hk
  intro j
  induction j with
  | zero =>
    intro n H hn hH
    obtain ⟨m, rfl⟩ : ∃ m, n = m + 1 := ⟨n - 1, by omega⟩
    obtain rfl : H = 2 ^ k := by omega
    rw [f_Mo_odds_L37_s, sh_1 k (by omega), if_pos (nI_le (Nat.le_refl _) (by omega))]
    exact ⟨_, rfl⟩
  | succ j ih =>
    intro n H hn hH
    obtain ⟨m, rfl⟩ : ∃ m, n = m + 1 := ⟨n - 1, by omega⟩
    rw [f_Mo_odds_L37_s, sh_1 k (by omega), if_neg (nI_ge (by omega) (by omega)), m_weight h hD hK eD eK hT eT hv ev hx (by omega) hk, z_obs, lN_add, nI_1]
    exact ih m (H + 1) (by omega) (by omega)
theorem c_all {k : Nat} (hk : k ≤ 8) : ∀ j n i, j < n → i + j = k → ∃ b, f_Ye_odds_L37 (nI k) n (nI (10 ^ i)) (nI i) = some (nI (10 ^ k), b) := by
  intro j
  induction j with
  | zero =>
    intro n i hn hi
    obtain ⟨m, rfl⟩ : ∃ m, n = m + 1 := ⟨n - 1, by omega⟩
    obtain rfl : i = k := by omega
    rw [f_Ye_odds_L37_s, if_pos (nI_le (Nat.le_refl _) (by omega))]
    exact ⟨_, rfl⟩
  | succ j ih =>
    intro n i hn hi
    obtain ⟨m, rfl⟩ : ∃ m, n = m + 1 := ⟨n - 1, by omega⟩
    rw [f_Ye_odds_L37_s, if_neg (nI_ge (by omega) (by omega)), show nI (10 ^ i) * (10 : Int32) = nI (10 ^ (i + 1)) from z_mul (10 ^ i) 10, nI_1]
    exact ih m (i + 1) (by omega) (by omega)
theorem m_all {k : Nat} (hk : k ≤ 8) : ∀ j n i, j < n → i + j = k → ∃ b, f_Mo_odds_L70 (nI k) n (lN (10 ^ i)) (nI i) = some (lN (10 ^ k), b) := by
  intro j
  induction j with
  | zero =>
    intro n i hn hi
    obtain ⟨m, rfl⟩ : ∃ m, n = m + 1 := ⟨n - 1, by omega⟩
    obtain rfl : i = k := by omega
    rw [f_Mo_odds_L70_s, if_pos (nI_le (Nat.le_refl _) (by omega))]
    exact ⟨_, rfl⟩
  | succ j ih =>
    intro n i hn hi
    obtain ⟨m, rfl⟩ : ∃ m, n = m + 1 := ⟨n - 1, by omega⟩
    rw [f_Mo_odds_L70_s, if_neg (nI_ge (by omega) (by omega)), show lN (10 ^ i) * (10 : Int64) = lN (10 ^ (i + 1)) from lN_mul (10 ^ i) 10, nI_1]
    exact ih m (i + 1) (by omega) (by omega)
end ODD
theorem pl_odds (X : Nat → Int32) (Y ri rl rf : Nat → Nat → Int32) (im : Nat → Option Nat) (vi vl vf : Nat → Nat → Int32) (U : Nat → Int32) (V : Nat → Nat → Int32) (Z : Nat → Int64) (p0 : Int32) (p1 : Int32) (p2 : Int32) (h : Rel X Y ri rl rf im vi vl vf U V Z) : ∃ (out : Int32 × Int32 × Int32) (mout : Int32), f_Ye_odds (X 0) (X 1) (X 2) (X 3) (X 4) (Y 0) (Y 1) (X 33) (X 34) p0 p1 p2 = some out ∧ f_Mo_odds (V 0) p0 p1 p2 = some mout ∧ out.1 = mout ∧ Rel (va_up (va_up X 33 out.2.1) 34 out.2.2) Y ri rl rf im vi vl vf U V Z := by
  have h0 := h
  obtain ⟨⟨hB, hV⟩, hT, hH, hl0, hS, hI⟩ := h
  obtain ⟨N, fl, lo, D, K, T, v, hM, hW⟩ := hV.out
  have hC := hB.cw hM
  obtain ⟨b0, b1, b2, b3, b4, -⟩ := id hB
  obtain ⟨w1, w2, w3, w4, w5, w6, w7, w8⟩ := id hW
  by_cases hp : 0 ≤ p0 ∧ p0 ≤ 8
  · by_cases hx : 0 ≤ p1 ∧ p1 ≤ 10
    · by_cases hq : 0 ≤ p2 ∧ p2 ≤ 1
      · obtain ⟨k, hk, rfl⟩ := nI_rng 8 (by decide) hp
        obtain ⟨x, hx', rfl⟩ := nI_rng 10 (by decide) hx
        have hwt := wt_le fl lo N D K hx' k T v
        have h8 : (10 : Nat) ^ k ≤ 10 ^ 8 := Nat.pow_le_pow_right (by decide) hk
        have h81 : (10 : Nat) ^ 8 = 100000000 := by decide
        have h1 : 1 ≤ 10 ^ k := Nat.one_le_pow _ _ (by decide)
        obtain ⟨z1, e1⟩ := c_all hk k FU 0 (by unfold FU; omega) (by omega)
        have e1' : f_Ye_odds_L37 (nI k) FU (1 : Int32) (0 : Int32) = some (nI (10 ^ k), z1) := e1
        obtain ⟨z2, e2⟩ := m_all hk k FU 0 (by unfold FU; omega) (by omega)
        have e2' : f_Mo_odds_L70 (nI k) FU (1 : Int64) (0 : Int32) = some (lN (10 ^ k), z2) := e2
        have h2k : 2 ^ k ≤ 256 := Nat.pow_le_pow_right (n := 2) (by decide) hk
        obtain ⟨z3, e3⟩ := m_odsum hM w1 w2 w5 w6 w3 w7 w4 w8 hx' hk (2 ^ k) FU 0 (by unfold FU; omega) (by omega)
        rw [wm_sum] at e3
        have e3' : f_Mo_odds_L37 (V 0) (nI k) (nI x) FU (0 : Int64) (0 : Int32) = some (lN (wt fl lo N D K x k T v), z3) := e3
        have e4 := c_wt hC w1 w2 hx' k 10 T v (by omega) hk (by omega) w4
        refine ⟨(nI ((if p2 = 0 then wt fl lo N D K x k T v else 10 ^ k) / Nat.gcd (wt fl lo N D K x k T v) (10 ^ k)), nI (wt fl lo N D K x k T v), nI (10 ^ k)), nI ((if p2 = 0 then wt fl lo N D K x k T v else 10 ^ k) / Nat.gcd (wt fl lo N D K x k T v) (10 ^ k)), ?_, ?_, rfl, ⟨hB, hV⟩, hT, hH, hl0, hS, hI⟩
        · rw [f_Ye_odds, isOut, if_pos hp, z_obs, if_pos rfl, isOut, if_pos hx, z_obs, if_pos rfl, isOut, if_pos hq, z_obs, if_pos rfl, e1', z_obs, ← b1, ← b2, ← b3, ← b4, w5, w6, w7, w8, e4, z_obs, become_n h1 (by omega), z_obs, c_part (by omega) h1 (by omega)]; rfl
        · rw [f_Mo_odds, mIn, if_pos hp, z_obs, if_neg (by decide), mIn, if_pos hx, z_obs, if_neg (by decide), mIn, if_pos hq, z_obs, if_neg (by decide), e3', z_obs, e2', z_obs]
          rcases nI01 hq with rfl | rfl
          · rw [if_pos rfl, m_part (by omega) h1 (by omega)]; rfl
          · rw [if_neg (by decide), m_part (by omega) h1 (by omega)]; rfl
      · refine ⟨(-1, X 33, X 34), -1, ?_, ?_, rfl, ?_⟩
        · rw [f_Ye_odds, isOut, if_pos hp, z_obs, if_pos rfl, isOut, if_pos hx, z_obs, if_pos rfl, isOut, if_neg hq]; rfl
        · rw [f_Mo_odds, mIn, if_pos hp, z_obs, if_neg (by decide), mIn, if_pos hx, z_obs, if_neg (by decide), mIn, if_neg hq]; rfl
        · simp only [vu_self]; exact h0
    · refine ⟨(-1, X 33, X 34), -1, ?_, ?_, rfl, ?_⟩
      · rw [f_Ye_odds, isOut, if_pos hp, z_obs, if_pos rfl, isOut, if_neg hx]; rfl
      · rw [f_Mo_odds, mIn, if_pos hp, z_obs, if_neg (by decide), mIn, if_neg hx]; rfl
      · simp only [vu_self]; exact h0
  · refine ⟨(-1, X 33, X 34), -1, ?_, ?_, rfl, ?_⟩
    · rw [f_Ye_odds, isOut, if_neg hp]; rfl
    · rw [f_Mo_odds, mIn, if_neg hp]; rfl
    · simp only [vu_self]; exact h0
