/-! ===== SURE ===== -/
theorem mx1 {x : Nat} (h1 : 1 ≤ x) (h2 : x < 2147483648) : (if (1 : Int32) < nI x then nI x else (1 : Int32)) = nI x := by
  by_cases h : x = 1
  · subst h; rfl
  · rw [if_pos (show (1 : Int32) < nI x from nI_lt (a := 1) (by omega) (by omega))]
theorem become_n {a b : Nat} (h1 : 1 ≤ b) (h2 : b < 2147483648) : f_Fr_become (nI a) (nI b) = some (nI a, nI b) := by
  rw [f_Fr_become, mx1 h1 h2]
theorem win_mono (fl : Nat → Nat) (N s L : Nat) : win fl N s L ≤ win fl N s (L + 1) := by rw [win]; omega
theorem mnr_mono (fl : Nat → Nat) (N L : Nat) : ∀ S, mnr fl N L S ≤ mnr fl N (L + 1) S
  | 0 => Nat.le_refl _
  | S + 1 => by
    have h := mnr_mono fl N L S
    have h0 := win_mono fl N 0 L
    have hs := win_mono fl N S L
    rw [mnr, mnr]
    by_cases a : S = 0
    · rw [if_pos a, if_pos a]; exact h0
    · rw [if_neg a, if_neg a]
      split <;> split <;> omega
theorem mn_mono (fl : Nat → Nat) (N : Nat) {L M : Nat} (h : L ≤ M) : mn fl N L ≤ mn fl N M := by
  induction M with
  | zero => obtain rfl : L = 0 := by omega
            exact Nat.le_refl _
  | succ M ih =>
    by_cases e : L = M + 1
    · subst e; exact Nat.le_refl _
    · exact Nat.le_trans (ih (by omega)) (mnr_mono fl N M N)
theorem mn_le {r : Nat → Int32} {N : Nat} {fl lo : Nat → Nat} (h : MW r N fl lo) {L : Nat} (hL : L ≤ N) : mn fl N L ≤ 1200 := by
  have h2 := h.2.1
  have := mnr_le h.1 (fun i hi => (h.2.2.2.1 i (by omega)).1) L N
  have e : mn fl N L = mnr fl N L N := rfl
  omega
theorem sure_both {r g : Nat → Int32} {N c : Nat} {fl lo : Nat → Nat} (h : MW r N fl lo) (hg : ∀ L, L ≤ N → g L = nI (mn fl N L)) (hc : c ≤ 999) : ∀ k n l a b, k < n → l + k = N + 1 → 1 ≤ l → a ≤ 3000 → 1 ≤ b → b ≤ 12 → ∃ a' b', f_Li_findSure_L21 (nI N) g (nI c) n (nI l) (nI a) (nI b) = some (nI (N + 1), nI a', nI b') ∧ f_Mo_sure_L40 r (nI c) n (lN a) (lN b) (nI l) = some (lN a', lN b', nI (N + 1)) ∧ a' ≤ 3000 ∧ 1 ≤ b' ∧ b' ≤ 12 := by
  have hN := h.2.1
  intro k
  induction k with
  | zero =>
    intro n l a b hn hl h1 ha hb hb2
    obtain ⟨m, rfl⟩ : ∃ m, n = m + 1 := ⟨n - 1, by omega⟩
    obtain rfl : l = N + 1 := by omega
    refine ⟨a, b, ?_, ?_, ha, hb, hb2⟩
    · rw [f_Li_findSure_L21_s, if_pos (nI_lt (by omega) (by omega))]
    · rw [f_Mo_sure_L40_s, gz, show (0 : Int32).toNatClampNeg = 0 from rfl, h.2.2.1, if_pos (nI_lt (by omega) (by omega))]
  | succ k ih =>
    intro n l a b hn hl h1 ha hb hb2
    obtain ⟨m, rfl⟩ : ∃ m, n = m + 1 := ⟨n - 1, by omega⟩
    have hm := mn_le h (L := l) (by omega)
    rw [f_Li_findSure_L21_s, if_neg (nI_nlt (by omega) (by omega)), c_least hN hg (by omega), z_obs, f_Mo_sure_L40_s, gz, show (0 : Int32).toNatClampNeg = 0 from rfl, h.2.2.1, if_neg (nI_nlt (by omega) (by omega)), m_low h (by omega), z_obs, nI_1, nI_add, f_Fr_lowerTo, nI_l (n := c + mn fl N l) (by omega), nI_l (n := l) (by omega), nI_l (n := a) (by omega), nI_l (n := b) (by omega)]
    by_cases hc : 0 ≤ lg_cmp (lN (c + mn fl N l) * lN b) (lN a * lN l)
    · rw [if_pos hc, if_pos hc, z_obs, if_pos rfl]
      exact ih m (l + 1) a b (by omega) (by omega) (by omega) ha hb hb2
    · rw [if_neg hc, if_neg hc, become_n (by omega) (by omega), z_obs, z_obs, if_neg (by decide)]
      exact ih m (l + 1) _ l (by omega) (by omega) (by omega) (by omega) (by omega) (by omega)
theorem nI01 {x : Int32} (h : 0 ≤ x ∧ x ≤ (1 : Int32)) : x = 0 ∨ x = 1 := by
  obtain ⟨w, hw, rfl⟩ := nI_rng 1 (by decide) h
  have : w = 0 ∨ w = 1 := by omega
  rcases this with rfl | rfl
  · exact .inl rfl
  · exact .inr rfl
theorem pl_sure (X : Nat → Int32) (Y ri rl rf : Nat → Nat → Int32) (im : Nat → Option Nat) (vi vl vf : Nat → Nat → Int32) (U : Nat → Int32) (V : Nat → Nat → Int32) (Z : Nat → Int64) (p0 : Int32) (p1 : Int32) (h : Rel X Y ri rl rf im vi vl vf U V Z) : ∃ (out : Int32 × Int32 × (Nat → Int32) × Int32 × Int32) (mout : Int32), f_Ye_sure (X 0) (Y 0) (X 23) (Y 5) (X 26) (X 27) p0 p1 = some out ∧ f_Mo_sure (V 0) p0 p1 = some mout ∧ out.1 = mout ∧ Rel (va_up (va_up (va_up X 23 out.2.1) 26 out.2.2.2.1) 27 out.2.2.2.2) (va_up Y 5 out.2.2.1) ri rl rf im vi vl vf U V Z := by
  have h0 := h
  obtain ⟨⟨hB, hV⟩, hT, hH, hl0, hS, hI⟩ := h
  obtain ⟨N, fl, lo, D, K, T, v, hM, hW⟩ := hV.out
  have hC := hB.cw hM
  have eN : X 0 = nI N := hC.2.2.1
  have hN := hC.2.1
  have hN1 := hC.1
  obtain ⟨g', d1, d2, d3⟩ := c_draw hC (Y 5) hl0
  by_cases hp : 0 ≤ p0 ∧ p0 ≤ 999
  · by_cases hq : 0 ≤ p1 ∧ p1 ≤ 1
    · obtain ⟨c, hc, rfl⟩ := nI_rng 999 (by decide) hp
      have hm := mn_le hM (L := N) (Nat.le_refl _)
      rw [mn_full fl hN1] at hm
      obtain ⟨a, b, e1, e2, ha, hb1, hb2⟩ := sure_both hM d3 hc N FU 1 (sma fl N) N (by unfold FU; omega) (by omega) (by omega) (by omega) hN1 hN
      have e1' : f_Li_findSure_L21 (nI N) g' (nI c) FU (1 : Int32) (nI (sma fl N)) (nI N) = some (nI (N + 1), nI a, nI b) := e1
      have e2' : f_Mo_sure_L40 (V 0) (nI c) FU (lN (sma fl N)) (lN N) (1 : Int32) = some (lN a, lN b, nI (N + 1)) := e2
      refine ⟨(nI ((if p1 = 0 then a else b) / Nat.gcd a b), nI N, g', nI a, nI b), nI ((if p1 = 0 then a else b) / Nat.gcd a b), ?_, ?_, rfl, ⟨hB, hV⟩, hT, hH, d2, hS, hI⟩
      · rw [f_Ye_sure, isOut, if_pos hp, z_obs, if_pos rfl, isOut, if_pos hq, z_obs, if_pos rfl, d1, z_obs, f_Li_findSure, c_least hN d3 (Nat.le_refl _), mn_full fl hN1, z_obs, become_n hN1 (by omega), z_obs, e1', z_obs, z_obs, c_part (by omega) hb1 (by omega)]; rfl
      · rw [f_Mo_sure, mIn, if_pos hp, z_obs, if_neg (by decide), mIn, if_pos hq, z_obs, if_neg (by decide), m_tot hM, z_obs, gz, show (0 : Int32).toNatClampNeg = 0 from rfl, hM.2.2.1, nI_l (by omega), nI_l (by omega), e2', z_obs]
        rcases nI01 hq with rfl | rfl
        · rw [if_pos rfl, m_part (by omega) hb1 (by omega)]; rfl
        · rw [if_neg (by decide), m_part (by omega) hb1 (by omega)]; rfl
    · refine ⟨(-1, X 23, Y 5, X 26, X 27), -1, ?_, ?_, rfl, ?_⟩
      · rw [f_Ye_sure, isOut, if_pos hp, z_obs, if_pos rfl, isOut, if_neg hq]; rfl
      · rw [f_Mo_sure, mIn, if_pos hp, z_obs, if_neg (by decide), mIn, if_neg hq]; rfl
      · simp only [vu_self]; exact h0
  · refine ⟨(-1, X 23, Y 5, X 26, X 27), -1, ?_, ?_, rfl, ?_⟩
    · rw [f_Ye_sure, isOut, if_neg hp]; rfl
    · rw [f_Mo_sure, mIn, if_neg hp]; rfl
    · simp only [vu_self]; exact h0
