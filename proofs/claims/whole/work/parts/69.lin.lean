/-! ===== lines ===== -/
theorem gz {α : Type} (a b : α) : (if (0 : Int32) < 0 ∨ 30 ≤ (0 : Int32).toNatClampNeg then a else b) = b := if_neg (by decide)
/-- the inflows of L periods from s on -/
def win (fl : Nat → Nat) (N s : Nat) : Nat → Nat
  | 0 => 0
  | L + 1 => win fl N s L + fl ((s + L) % N)
/-- the least of them for starts below S -/
def mnr (fl : Nat → Nat) (N L : Nat) : Nat → Nat
  | 0 => 0
  | S + 1 => if S = 0 then win fl N 0 L else if win fl N S L < mnr fl N L S then win fl N S L else mnr fl N L S
def mn (fl : Nat → Nat) (N L : Nat) : Nat := mnr fl N L N
theorem win_le {fl : Nat → Nat} {N : Nat} (h1 : 1 ≤ N) (hf : ∀ i, i < N → fl i ≤ 99) (s : Nat) : ∀ L, win fl N s L ≤ L * 99
  | 0 => by simp [win]
  | L + 1 => by
    have h := win_le h1 hf s L
    have h2 := hf ((s + L) % N) (Nat.mod_lt _ h1)
    rw [win, Nat.succ_mul]; omega
theorem mnr_le {fl : Nat → Nat} {N : Nat} (h1 : 1 ≤ N) (hf : ∀ i, i < N → fl i ≤ 99) (L : Nat) : ∀ S, mnr fl N L S ≤ L * 99
  | 0 => by simp [mnr]
  | S + 1 => by
    have h := mnr_le h1 hf L S
    have h2 := win_le h1 hf 0 L
    have h3 := win_le h1 hf S L
    rw [mnr]; split
    · exact h2
    · split <;> assumption
theorem win_shift (fl : Nat → Nat) (N s : Nat) : ∀ L, win fl N s (L + 1) = fl (s % N) + win fl N (s + 1) L
  | 0 => by simp [win]
  | L + 1 => by
    have h := win_shift fl N s L
    rw [win, h, win, show s + 1 + L = s + (L + 1) by omega]; omega
theorem win_full (fl : Nat → Nat) {N : Nat} (h1 : 1 ≤ N) : ∀ s, win fl N s N = win fl N 0 N
  | 0 => rfl
  | s + 1 => by
    have h := win_shift fl N s N
    have h2 : win fl N s (N + 1) = win fl N s N + fl ((s + N) % N) := rfl
    have h3 : (s + N) % N = s % N := Nat.add_mod_right s N
    rw [h3] at h2
    have h4 := win_full fl h1 s
    omega
theorem win0_sma (fl : Nat → Nat) {N : Nat} : ∀ L, L ≤ N → win fl N 0 L = sma fl L
  | 0, _ => rfl
  | L + 1, h => by rw [win, sma, win0_sma fl L (by omega), Nat.zero_add, Nat.mod_eq_of_lt (by omega)]
theorem mnr_full (fl : Nat → Nat) {N : Nat} (h1 : 1 ≤ N) : ∀ S, 1 ≤ S → mnr fl N N S = sma fl N
  | 0, h => absurd h (by omega)
  | S + 1, _ => by
    rw [mnr]
    by_cases h0 : S = 0
    · rw [if_pos h0, win0_sma fl N (Nat.le_refl _)]
    · have h := mnr_full fl h1 S (by omega)
      rw [if_neg h0, h, win_full fl h1 S, win0_sma fl N (Nat.le_refl _)]; split <;> rfl
theorem mn_full (fl : Nat → Nat) {N : Nat} (h1 : 1 ≤ N) : mn fl N N = sma fl N := mnr_full fl h1 N h1
theorem mn_0 (fl : Nat → Nat) {N : Nat} : mn fl N 0 = 0 := by
  have : ∀ S, mnr fl N 0 S = 0 := by
    intro S
    induction S with
    | zero => rfl
    | succ S ih => rw [mnr, ih]; split
                   · rfl
                   · split <;> first | rfl | (rename_i h; exact absurd h (by omega))
  exact this N
section LIN
variable {per : Int32} {inf los r : Nat → Int32} {N : Nat} {fl lo : Nat → Nat}
theorem CW.fN (h : CW per inf los N fl lo) : ∀ i, i < N → fl i ≤ 99 := fun i hi => (h.2.2.2.1 i (Nat.lt_of_lt_of_le hi h.2.1)).1
theorem per_cut (h : CW per inf los N fl lo) : (if (1 : Int32) < (if (12 : Int32) < per then (12 : Int32) else per) then (if (12 : Int32) < per then (12 : Int32) else per) else (1 : Int32)) = nI N := by
  obtain ⟨h1, h2, h3, -⟩ := h
  have e : (if (12 : Int32) < per then (12 : Int32) else per) = nI N := by rw [h3]; exact if_neg (Int32.not_lt.mpr (nI_le (b := 12) h2 (by decide)))
  rw [e]
  by_cases hN : N = 1
  · subst hN; rfl
  · rw [if_pos (show (1 : Int32) < nI N from nI_lt (a := 1) (by omega) (by omega))]
theorem draw_in (h : CW per inf los N fl lo) {S : Nat} (hS : S < N) : ∀ k n l (g : Nat → Int32), k < n → l + k = N + 1 → 1 ≤ l → (∀ L, 1 ≤ L → L < l → g L = nI (mnr fl N L (S + 1))) → (∀ L, l ≤ L → L ≤ N → S ≠ 0 → g L = nI (mnr fl N L S)) → ∃ a b g', f_Li_draw_L32 per inf (nI S) n (nI (win fl N S (l - 1))) (nI l) g = some (a, b, g') ∧ g' 0 = g 0 ∧ (∀ L, 1 ≤ L → L ≤ N → g' L = nI (mnr fl N L (S + 1))) := by
  have hN := h.2.1
  intro k
  induction k with
  | zero =>
    intro n l g hn hl h1 hlo hhi
    obtain ⟨m, rfl⟩ : ∃ m, n = m + 1 := ⟨n - 1, by omega⟩
    refine ⟨_, _, g, by rw [f_Li_draw_L32_s, per_cut h, if_pos (nI_lt (by omega) (by omega))], rfl, fun L a b => hlo L a (by omega)⟩
  | succ k ih =>
    intro n l g hn hl h1 hlo hhi
    obtain ⟨m, rfl⟩ : ∃ m, n = m + 1 := ⟨n - 1, by omega⟩
    have ei : (nI S + nI l) - (1 : Int32) = nI (S + (l - 1)) := by rw [nI_add, show nI (S + l) - (1 : Int32) = nI (S + l - 1) from pk_sub (b := 1) (by omega)]; congr 1; omega
    have ew : nI (win fl N S (l - 1)) + nI (fl ((S + (l - 1)) % N)) = nI (win fl N S l) := by
      rw [nI_add]; congr 1
      obtain ⟨j, rfl⟩ : ∃ j, l = j + 1 := ⟨l - 1, by omega⟩
      rfl
    have hw := win_le h.1 h.fN S l
    have hm := mnr_le h.1 h.fN l S
    rw [f_Li_draw_L32_s, per_cut h, if_neg (nI_nlt (by omega) (by omega)), ei, c_inflow h (by omega), z_obs, ew]
    have step : ∀ x : Int32, x = nI (mnr fl N l (S + 1)) → ∃ a b g', f_Li_draw_L32 per inf (nI S) m (nI (win fl N S l)) (nI l + (1 : Int32)) (upd g (nI l).toNatClampNeg x) = some (a, b, g') ∧ g' 0 = g 0 ∧ (∀ L, 1 ≤ L → L ≤ N → g' L = nI (mnr fl N L (S + 1))) := by
      intro x hx
      rw [nI_1, nI_clamp (by omega)]
      obtain ⟨a, b, g', e1, e2, e3⟩ := ih m (l + 1) (upd g l x) (by omega) (by omega) (by omega) (fun L a b => by
        by_cases hL : L = l
        · subst hL; rw [upd_at]; exact hx
        · rw [upd_ne hL]; exact hlo L a (by omega)) (fun L a b c => by rw [upd_ne (by omega)]; exact hhi L (by omega) b c)
      refine ⟨a, b, g', e1, ?_, e3⟩
      rw [e2, upd_ne (by omega)]
    by_cases h0 : S = 0
    · rw [if_pos (show nI S = (0 : Int32) by rw [h0]; rfl), if_neg (ixn (by omega) (by decide))]
      exact step _ (by rw [mnr, if_pos h0, h0])
    · rw [if_neg (show ¬ nI S = (0 : Int32) from fun z => h0 ((nI_eq (b := 0) (by omega) (by decide)).mp z)), if_neg (ixn (by omega) (by decide))]
      refine step _ ?_
      rw [nI_clamp (by omega), hhi l (Nat.le_refl _) (by omega) h0, mnr, if_neg h0]
      by_cases hc : win fl N S l < mnr fl N l S
      · rw [if_pos hc, if_neg (nI_nlt (by omega) (by omega))]
      · rw [if_neg hc]
        by_cases hd : mnr fl N l S < win fl N S l
        · rw [if_pos (nI_lt hd (by omega))]
        · rw [if_neg (nI_nlt (by omega) (by omega)), show win fl N S l = mnr fl N l S by omega]
theorem draw_out (h : CW per inf los N fl lo) : ∀ k n S (g : Nat → Int32), k < n → S + k = N → (S ≠ 0 → ∀ L, 1 ≤ L → L ≤ N → g L = nI (mnr fl N L S)) → ∃ a g', f_Li_draw_L19 per inf n (nI S) g = some (a, g') ∧ g' 0 = g 0 ∧ ∀ L, 1 ≤ L → L ≤ N → g' L = nI (mn fl N L) := by
  have hN := h.2.1
  have h1 := h.1
  intro k
  induction k with
  | zero =>
    intro n S g hn hS hg
    obtain ⟨m, rfl⟩ : ∃ m, n = m + 1 := ⟨n - 1, by omega⟩
    obtain rfl : S = N := by omega
    refine ⟨_, g, by rw [f_Li_draw_L19_s, per_cut h, if_pos (nI_le (Nat.le_refl _) (by omega))], rfl, hg (by omega)⟩
  | succ k ih =>
    intro n S g hn hS hg
    obtain ⟨m, rfl⟩ : ∃ m, n = m + 1 := ⟨n - 1, by omega⟩
    obtain ⟨a, b, g1, e1, e2, e3⟩ := draw_in h (S := S) (by omega) N FU 1 g (by unfold FU; omega) (by omega) (by omega) (fun L a b => absurd b (by omega)) (fun L a b c => hg c L a b)
    have e1' : f_Li_draw_L32 per inf (nI S) FU (0 : Int32) (1 : Int32) g = some (a, b, g1) := e1
    obtain ⟨a2, g', f1, f2, f3⟩ := ih m (S + 1) g1 (by omega) (by omega) (fun _ L x y => e3 L x y)
    refine ⟨a2, g', ?_, f2.trans e2, f3⟩
    rw [f_Li_draw_L19_s, per_cut h, if_neg (nI_ge (by omega) (by omega)), e1', z_obs, nI_1]
    exact f1
theorem c_draw (h : CW per inf los N fl lo) (g : Nat → Int32) (hg : g 0 = 0) : ∃ g', f_Li_draw g per inf = some (nI N, g') ∧ g' 0 = 0 ∧ ∀ L, L ≤ N → g' L = nI (mn fl N L) := by
  obtain ⟨a, g', e1, e2, e3⟩ := draw_out h N FU 0 g (by have := h.2.1; unfold FU; omega) (by omega) (fun c => absurd rfl c)
  have e1' : f_Li_draw_L19 per inf FU (0 : Int32) g = some (a, g') := e1
  refine ⟨g', ?_, e2.trans hg, fun L hL => ?_⟩
  · rw [f_Li_draw, e1', z_obs, per_cut h]
  · by_cases h0 : L = 0
    · subst h0; rw [mn_0, e2, hg]; rfl
    · exact e3 L (by omega) hL
theorem c_least {g : Nat → Int32} (hN : N ≤ 12) (hg : ∀ L, L ≤ N → g L = nI (mn fl N L)) {L : Nat} (hL : L ≤ N) : f_Li_leastSum g (nI L) = some (nI (mn fl N L)) := by
  have hp : (0 : Int32) ≤ nI L ∧ nI L ≤ (12 : Int32) := nI_rng' (M := 12) (by decide) (by omega)
  rw [f_Li_leastSum, isOut, if_pos hp, z_obs, if_pos rfl, if_neg (ixn (by omega) (by decide)), nI_clamp (by omega), hg L hL]
theorem m_low_in (h : MW r N fl lo) {S L : Nat} (hS : S < N) (hL : L ≤ N) : ∀ k n t, k < n → t + k = L → f_Mo_lowestOf_L21 r (nI L) (nI S) n (nI (win fl N S t)) (nI (S + t)) = some (nI (win fl N S L), nI (S + L)) := by
  have hN := h.2.1
  intro k
  induction k with
  | zero =>
    intro n t hn ht
    obtain ⟨m, rfl⟩ : ∃ m, n = m + 1 := ⟨n - 1, by omega⟩
    obtain rfl : t = L := by omega
    rw [f_Mo_lowestOf_L21_s, nI_add, if_pos (nI_le (Nat.le_refl _) (by omega))]
  | succ k ih =>
    intro n t hn ht
    obtain ⟨m, rfl⟩ : ∃ m, n = m + 1 := ⟨n - 1, by omega⟩
    rw [f_Mo_lowestOf_L21_s, nI_add, if_neg (nI_ge (by omega) (by omega)), m_flow h (by omega), z_obs, nI_add, nI_1]
    exact ih m (t + 1) (by omega) (by omega)
theorem m_low_out (h : MW r N fl lo) {L : Nat} (hL : L ≤ N) : ∀ k n S (a : Int32), k < n → S + k = N → (S ≠ 0 → a = nI (mnr fl N L S)) → f_Mo_lowestOf_L5 r (nI L) n a (nI S) = some (nI (mn fl N L), nI N) := by
  have hN := h.2.1
  have h1 := h.1
  have hf : ∀ i, i < N → fl i ≤ 99 := fun i hi => (h.2.2.2.1 i (by omega)).1
  intro k
  induction k with
  | zero =>
    intro n S a hn hS ha
    obtain ⟨m, rfl⟩ : ∃ m, n = m + 1 := ⟨n - 1, by omega⟩
    obtain rfl : S = N := by omega
    rw [f_Mo_lowestOf_L5_s, if_neg (by decide), show (0 : Int32).toNatClampNeg = 0 from rfl, h.2.2.1, if_pos (nI_le (Nat.le_refl _) (by omega)), ha (by omega)]; rfl
  | succ k ih =>
    intro n S a hn hS ha
    obtain ⟨m, rfl⟩ : ∃ m, n = m + 1 := ⟨n - 1, by omega⟩
    have hin : f_Mo_lowestOf_L21 r (nI L) (nI S) FU (0 : Int32) (nI S) = some (nI (win fl N S L), nI (S + L)) := m_low_in h (by omega) hL L FU 0 (by unfold FU; omega) (by omega)
    have hw := win_le h1 hf S L
    have hm := mnr_le h1 hf L S
    rw [f_Mo_lowestOf_L5_s, if_neg (by decide), show (0 : Int32).toNatClampNeg = 0 from rfl, h.2.2.1, if_neg (nI_ge (by omega) (by omega)), hin, z_obs, nI_1]
    by_cases h0 : S = 0
    · rw [if_pos (show nI S = (0 : Int32) by rw [h0]; rfl)]
      exact ih m (S + 1) _ (by omega) (by omega) (fun _ => by rw [mnr, if_pos h0, h0])
    · rw [if_neg (show ¬ nI S = (0 : Int32) from fun z => h0 ((nI_eq (b := 0) (by omega) (by decide)).mp z)), ha h0]
      by_cases hc : win fl N S L < mnr fl N L S
      · rw [if_neg (nI_ge hc (by omega))]
        exact ih m (S + 1) _ (by omega) (by omega) (fun _ => by rw [mnr, if_neg h0, if_pos hc])
      · rw [if_pos (nI_le (by omega) (by omega))]
        exact ih m (S + 1) _ (by omega) (by omega) (fun _ => by rw [mnr, if_neg h0, if_neg hc])
theorem m_low (h : MW r N fl lo) {L : Nat} (hL : L ≤ N) : f_Mo_lowestOf r (nI L) = some (nI (mn fl N L)) := by
  have e : f_Mo_lowestOf_L5 r (nI L) FU (-9 : Int32) (0 : Int32) = some (nI (mn fl N L), nI N) := m_low_out h hL N FU 0 (-9) (by have := h.2.1; unfold FU; omega) (by omega) (fun c => absurd rfl c)
  rw [f_Mo_lowestOf, e]; rfl
end LIN
theorem pl_lowest (X : Nat → Int32) (Y ri rl rf : Nat → Nat → Int32) (im : Nat → Option Nat) (vi vl vf : Nat → Nat → Int32) (U : Nat → Int32) (V : Nat → Nat → Int32) (Z : Nat → Int64) (p0 : Int32) (h : Rel X Y ri rl rf im vi vl vf U V Z) : ∃ (out : Int32 × Int32 × (Nat → Int32)) (mout : Int32), f_Ye_lowest (X 0) (Y 0) (X 23) (Y 5) p0 = some out ∧ f_Mo_lowest (V 0) p0 = some mout ∧ out.1 = mout ∧ Rel (va_up X 23 out.2.1) (va_up Y 5 out.2.2) ri rl rf im vi vl vf U V Z := by
  have h0 := h
  obtain ⟨⟨hB, hV⟩, hT, hH, hl0, hS, hI⟩ := h
  obtain ⟨N, fl, lo, D, K, T, v, hM, hW⟩ := hV.out
  have hC := hB.cw hM
  have eN : X 0 = nI N := hC.2.2.1
  have hN := hC.2.1
  obtain ⟨g', d1, d2, d3⟩ := c_draw hC (Y 5) hl0
  by_cases hp : 0 ≤ p0 ∧ p0 ≤ nI N
  · obtain ⟨w, hw, rfl⟩ := nI_rng N (by omega) hp
    refine ⟨(nI (mn fl N w), nI N, g'), nI (mn fl N w), ?_, ?_, rfl, ⟨hB, hV⟩, hT, hH, d2, hS, hI⟩
    · rw [f_Ye_lowest, isOut, if_pos (by rw [eN]; exact hp), z_obs, if_pos rfl, d1, z_obs, c_least hN d3 hw]; rfl
    · rw [f_Mo_lowest, if_neg (by decide), show (0 : Int32).toNatClampNeg = 0 from rfl, hM.2.2.1, mIn, if_pos hp, z_obs, if_neg (by decide), m_low hM hw]; rfl
  · refine ⟨(-1, X 23, Y 5), -1, ?_, ?_, rfl, ?_⟩
    · rw [f_Ye_lowest, isOut, if_neg (by rw [eN]; exact hp)]; rfl
    · rw [f_Mo_lowest, if_neg (by decide), show (0 : Int32).toNatClampNeg = 0 from rfl, hM.2.2.1, mIn, if_neg hp]; rfl
    · simp only [vu_self]; exact h0
theorem need_both {r g : Nat → Int32} {N : Nat} {fl lo : Nat → Nat} (h : MW r N fl lo) (hg : ∀ L, L ≤ N → g L = nI (mn fl N L)) (q : Int32) : ∀ k n l (a : Int32), k < n → l + k = N + 1 → ∃ b, f_Li_heightAt_L4 (nI N) g q n a (nI l) = some (b, nI (N + 1)) ∧ f_Mo_need_L34 r q n a (nI l) = some (b, nI (N + 1)) := by
  have hN := h.2.1
  intro k
  induction k with
  | zero =>
    intro n l a hn hl
    obtain ⟨m, rfl⟩ : ∃ m, n = m + 1 := ⟨n - 1, by omega⟩
    obtain rfl : l = N + 1 := by omega
    refine ⟨a, ?_, ?_⟩
    · rw [f_Li_heightAt_L4_s, if_pos (nI_lt (by omega) (by omega))]
    · rw [f_Mo_need_L34_s, if_neg (by decide), show (0 : Int32).toNatClampNeg = 0 from rfl, h.2.2.1, if_pos (nI_lt (by omega) (by omega))]
  | succ k ih =>
    intro n l a hn hl
    obtain ⟨m, rfl⟩ : ∃ m, n = m + 1 := ⟨n - 1, by omega⟩
    rw [f_Li_heightAt_L4_s, if_neg (nI_nlt (by omega) (by omega)), c_least hN hg (by omega), z_obs, f_Mo_need_L34_s, gz, show (0 : Int32).toNatClampNeg = 0 from rfl, h.2.2.1, if_neg (nI_nlt (by omega) (by omega)), m_low h (by omega), z_obs, nI_1]
    by_cases hc : nI l * q - nI (mn fl N l) ≤ a
    · rw [if_pos hc, if_neg (Int32.not_lt.mpr hc)]
      exact ih m (l + 1) a (by omega) (by omega)
    · rw [if_neg hc, if_pos (Int32.not_le.mp hc)]
      exact ih m (l + 1) _ (by omega) (by omega)
theorem pl_need (X : Nat → Int32) (Y ri rl rf : Nat → Nat → Int32) (im : Nat → Option Nat) (vi vl vf : Nat → Nat → Int32) (U : Nat → Int32) (V : Nat → Nat → Int32) (Z : Nat → Int64) (p0 : Int32) (h : Rel X Y ri rl rf im vi vl vf U V Z) : ∃ (out : Int32 × Int32 × (Nat → Int32)) (mout : Int32), f_Ye_need (X 0) (Y 0) (X 23) (Y 5) p0 = some out ∧ f_Mo_need (V 0) p0 = some mout ∧ out.1 = mout ∧ Rel (va_up X 23 out.2.1) (va_up Y 5 out.2.2) ri rl rf im vi vl vf U V Z := by
  have h0 := h
  obtain ⟨⟨hB, hV⟩, hT, hH, hl0, hS, hI⟩ := h
  obtain ⟨N, fl, lo, D, K, T, v, hM, hW⟩ := hV.out
  have hC := hB.cw hM
  have eN : X 0 = nI N := hC.2.2.1
  have hN := hC.2.1
  obtain ⟨g', d1, d2, d3⟩ := c_draw hC (Y 5) hl0
  by_cases hp : 0 ≤ p0 ∧ p0 ≤ 99
  · by_cases hc : p0 * nI N ≤ nI (sma fl N)
    · obtain ⟨b, e1, e2⟩ := need_both hM d3 p0 N FU 1 0 (by unfold FU; omega) (by omega)
      have e1' : f_Li_heightAt_L4 (nI N) g' p0 FU (0 : Int32) (1 : Int32) = some (b, nI (N + 1)) := e1
      have e2' : f_Mo_need_L34 (V 0) p0 FU (0 : Int32) (1 : Int32) = some (b, nI (N + 1)) := e2
      refine ⟨(b, nI N, g'), b, ?_, ?_, rfl, ⟨hB, hV⟩, hT, hH, d2, hS, hI⟩
      · rw [f_Ye_need, isOut, if_pos hp, z_obs, if_pos rfl, d1, z_obs, f_Li_isAboveMean, c_least hN d3 (Nat.le_refl _), mn_full fl hC.1, z_obs, if_pos hc, z_obs, if_pos rfl, f_Li_heightAt, e1']; rfl
      · rw [f_Mo_need, mIn, if_pos hp, z_obs, if_neg (by decide), if_neg (by decide), m_tot hM, z_obs, show (0 : Int32).toNatClampNeg = 0 from rfl, hM.2.2.1, if_pos hc, e2']; rfl
    · refine ⟨(-9, nI N, g'), -9, ?_, ?_, rfl, ⟨hB, hV⟩, hT, hH, d2, hS, hI⟩
      · rw [f_Ye_need, isOut, if_pos hp, z_obs, if_pos rfl, d1, z_obs, f_Li_isAboveMean, c_least hN d3 (Nat.le_refl _), mn_full fl hC.1, z_obs, if_neg hc]; rfl
      · rw [f_Mo_need, mIn, if_pos hp, z_obs, if_neg (by decide), if_neg (by decide), m_tot hM, z_obs, show (0 : Int32).toNatClampNeg = 0 from rfl, hM.2.2.1, if_neg hc]
  · refine ⟨(-1, X 23, Y 5), -1, ?_, ?_, rfl, ?_⟩
    · rw [f_Ye_need, isOut, if_neg hp]; rfl
    · rw [f_Mo_need, mIn, if_neg hp]; rfl
    · simp only [vu_self]; exact h0
