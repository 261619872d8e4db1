/-! ===== PIECES ===== -/
section PIE
variable {r g : Nat → Int32} {N l : Nat} {fl lo : Nat → Nat}
theorem piece_lo (h : MW r N fl lo) (hg : ∀ L, L ≤ N → g L = nI (mn fl N L)) (hl : l ≤ N) : ∀ k n j a b, k < n → j + k = l → a ≤ 3000 → 1 ≤ b → b ≤ 12 → ∃ a' b', f_Li_isPiece_L30 g (nI l) n (nI j) (nI a) (nI b) = some (nI l, nI a', nI b') ∧ (∀ m A B, f_Mo_isPiece_L32 r (nI l) (m + k) (nI j) (lN a) (lN b) A B = f_Mo_isPiece_L32 r (nI l) m (nI l) (lN a') (lN b') A B) ∧ a' ≤ 3000 ∧ 1 ≤ b' ∧ b' ≤ 12 := by
  have hN := h.2.1
  intro k
  induction k with
  | zero =>
    intro n j a b hn hj ha hb hb2
    obtain ⟨m, rfl⟩ : ∃ m, n = m + 1 := ⟨n - 1, by omega⟩
    obtain rfl : j = l := by omega
    refine ⟨a, b, ?_, fun m A B => rfl, ha, hb, hb2⟩
    rw [f_Li_isPiece_L30_s, if_pos (nI_le (Nat.le_refl _) (by omega))]
  | succ k ih =>
    intro n j a b hn hj ha hb hb2
    obtain ⟨m, rfl⟩ : ∃ m, n = m + 1 := ⟨n - 1, by omega⟩
    have hml := mn_le h (L := l) (by omega)
    have hmj := mn_mono fl N (L := j) (M := l) (by omega)
    have st : ∀ m A B, f_Mo_isPiece_L32 r (nI l) (m + (k + 1)) (nI j) (lN a) (lN b) A B = if lg_cmp (lN (mn fl N l - mn fl N j) * lN b) (lN a * lN (l - j)) ≤ 0 then f_Mo_isPiece_L32 r (nI l) (m + k) (nI (j + 1)) (lN a) (lN b) A B else f_Mo_isPiece_L32 r (nI l) (m + k) (nI (j + 1)) (lN (mn fl N l - mn fl N j)) (lN (l - j)) A B := by
      intro m A B
      rw [show m + (k + 1) = (m + k) + 1 from rfl, f_Mo_isPiece_L32_s, gz, show (0 : Int32).toNatClampNeg = 0 from rfl, h.2.2.1, if_neg (nI_nlt (by omega) (by omega)), if_neg (nI_ge (by omega) (by omega)), m_low h (by omega), z_obs, m_low h (by omega), z_obs, nI_1, z_sub hmj, z_sub (show j ≤ l by omega), nI_l (n := l - j) (by omega), nI_l (n := mn fl N l - mn fl N j) (by omega), if_pos (nI_le (by omega) (by omega)), if_pos (nI_le (by omega) (by omega))]
    rw [f_Li_isPiece_L30_s, if_neg (nI_ge (by omega) (by omega)), c_least hN hg (by omega), z_obs, c_least hN hg (by omega), z_obs, nI_1, z_sub hmj, z_sub (show j ≤ l by omega), f_Fr_raiseTo, nI_l (n := l - j) (by omega), nI_l (n := mn fl N l - mn fl N j) (by omega), nI_l (n := a) (by omega), nI_l (n := b) (by omega)]
    by_cases hc : lg_cmp (lN (mn fl N l - mn fl N j) * lN b) (lN a * lN (l - j)) ≤ 0
    · rw [if_pos hc, z_obs]
      obtain ⟨a', b', e1, e2, e3⟩ := ih m (j + 1) a b (by omega) (by omega) ha hb hb2
      refine ⟨a', b', e1, fun m A B => ?_, e3⟩
      rw [st, if_pos hc, e2]
    · rw [if_neg hc, become_n (by omega) (by omega), z_obs, z_obs]
      obtain ⟨a', b', e1, e2, e3⟩ := ih m (j + 1) (mn fl N l - mn fl N j) (l - j) (by omega) (by omega) (by omega) (by omega) (by omega)
      refine ⟨a', b', e1, fun m A B => ?_, e3⟩
      rw [st, if_neg hc, e2]
theorem piece_hi (h : MW r N fl lo) (hg : ∀ L, L ≤ N → g L = nI (mn fl N L)) (hl : l ≤ N) : ∀ k n n2 j a b A B, k < n → k < n2 → j + k = N + 1 → l < j → a ≤ 3000 → 1 ≤ b → b ≤ 12 → ∃ a' b', f_Li_isPiece_L66 (nI N) g (nI l) n (nI j) (nI a) (nI b) = some (nI (N + 1), nI a', nI b') ∧ f_Mo_isPiece_L32 r (nI l) n2 (nI j) A B (lN a) (lN b) = some (nI (N + 1), A, B, lN a', lN b') ∧ a' ≤ 3000 ∧ 1 ≤ b' ∧ b' ≤ 12 := by
  have hN := h.2.1
  intro k
  induction k with
  | zero =>
    intro n n2 j a b A B hn hn2 hj hlj ha hb hb2
    obtain ⟨m, rfl⟩ : ∃ m, n = m + 1 := ⟨n - 1, by omega⟩
    obtain ⟨m2, rfl⟩ : ∃ m, n2 = m + 1 := ⟨n2 - 1, by omega⟩
    obtain rfl : j = N + 1 := by omega
    refine ⟨a, b, ?_, ?_, ha, hb, hb2⟩
    · rw [f_Li_isPiece_L66_s, if_pos (nI_lt (by omega) (by omega))]
    · rw [f_Mo_isPiece_L32_s, gz, show (0 : Int32).toNatClampNeg = 0 from rfl, h.2.2.1, if_pos (nI_lt (by omega) (by omega))]
  | succ k ih =>
    intro n n2 j a b A B hn hn2 hj hlj ha hb hb2
    obtain ⟨m, rfl⟩ : ∃ m, n = m + 1 := ⟨n - 1, by omega⟩
    obtain ⟨m2, rfl⟩ : ∃ m, n2 = m + 1 := ⟨n2 - 1, by omega⟩
    have hml := mn_le h (L := j) (by omega)
    have hmj := mn_mono fl N (L := l) (M := j) (by omega)
    rw [f_Li_isPiece_L66_s, if_neg (nI_nlt (by omega) (by omega)), c_least hN hg (by omega), z_obs, c_least hN hg (by omega), z_obs, nI_1, z_sub hmj, z_sub (show l ≤ j by omega), f_Fr_lowerTo, nI_l (n := j - l) (by omega), nI_l (n := mn fl N j - mn fl N l) (by omega), nI_l (n := a) (by omega), nI_l (n := b) (by omega), f_Mo_isPiece_L32_s, gz, show (0 : Int32).toNatClampNeg = 0 from rfl, h.2.2.1, if_neg (nI_nlt (by omega) (by omega)), if_pos (nI_le (by omega) (by omega)), m_low h (by omega), z_obs, m_low h (by omega), z_obs, if_neg (nI_ge (by omega) (by omega)), nI_1, z_sub hmj, z_sub (show l ≤ j by omega), nI_l (n := j - l) (by omega), nI_l (n := mn fl N j - mn fl N l) (by omega)]
    by_cases hc : 0 ≤ lg_cmp (lN (mn fl N j - mn fl N l) * lN b) (lN a * lN (j - l))
    · rw [if_pos hc, if_pos hc, z_obs]
      exact ih m m2 (j + 1) a b A B (by omega) (by omega) (by omega) (by omega) ha hb hb2
    · rw [if_neg hc, if_neg hc, become_n (by omega) (by omega), z_obs, z_obs]
      exact ih m m2 (j + 1) _ _ A B (by omega) (by omega) (by omega) (by omega) (by omega) (by omega) (by omega)
theorem is_piece (h : MW r N fl lo) (hg : ∀ L, L ≤ N → g L = nI (mn fl N L)) (hl : l ≤ N) : ∃ z a b c d, f_Li_isPiece (nI N) g (nI l) = some (z, nI a, nI b, nI c, nI d) ∧ f_Mo_isPiece r (nI l) = some (z, lN a, lN b, lN c, lN d) ∧ a ≤ 3000 ∧ 1 ≤ b ∧ b ≤ 12 := by
  have hN := h.2.1
  have hN1 := h.1
  have hm := mn_le h (L := N) (Nat.le_refl _)
  rw [mn_full fl hN1] at hm
  obtain ⟨a, b, e1, e2, ha, hb1, hb2⟩ := piece_lo h hg hl l FU 0 0 1 (by unfold FU; omega) (by omega) (by omega) (by omega) (by omega)
  obtain ⟨c, d, f1, f2, hc, hd1, hd2⟩ := piece_hi h hg hl (N - l) FU (FU - l - 1) (l + 1) (sma fl N) N (lN a) (lN b) (by unfold FU; omega) (by unfold FU; omega) (by omega) (by omega) (by omega) hN1 hN
  have e1' : f_Li_isPiece_L30 g (nI l) FU (0 : Int32) (0 : Int32) (1 : Int32) = some (nI l, nI a, nI b) := e1
  have e2' := e2 ((FU - l - 1) + 1) (lN (sma fl N)) (lN N)
  rw [show (FU - l - 1) + 1 + l = FU by unfold FU; omega, f_Mo_isPiece_L32_s, gz, show (0 : Int32).toNatClampNeg = 0 from rfl, h.2.2.1, if_neg (nI_nlt (by omega) (by omega)), if_pos (nI_le (by omega) (by omega)), m_low h (by omega), z_obs, z_obs, if_pos (nI_le (by omega) (by omega)), nI_1, f2] at e2'
  have e2'' : f_Mo_isPiece_L32 r (nI l) FU (0 : Int32) (0 : Int64) (1 : Int64) (lN (sma fl N)) (lN N) = some (nI (N + 1), lN a, lN b, lN c, lN d) := e2'
  by_cases hcmp : 0 ≤ lg_cmp (lN a * lN d) (lN c * lN b)
  · refine ⟨0, a, b, c, d, ?_, ?_, ha, hb1, hb2⟩
    · rw [f_Li_isPiece, show f_Fr_become (0 : Int32) (1 : Int32) = some ((0 : Int32), (1 : Int32)) from rfl, z_obs, c_least hN hg (Nat.le_refl _), mn_full fl hN1, z_obs, become_n hN1 (by omega), z_obs, e1', z_obs, nI_1, f1, z_obs, f_Fr_isBelow, nI_l (n := a) (by omega), nI_l (n := b) (by omega), nI_l (n := c) (by omega), nI_l (n := d) (by omega), if_pos hcmp, z_obs, if_neg (by decide)]
    · rw [f_Mo_isPiece, m_tot h, z_obs, gz, show (0 : Int32).toNatClampNeg = 0 from rfl, h.2.2.1, nI_l (n := N) (by omega), nI_l (n := sma fl N) (by omega), e2'', z_obs, if_pos hcmp]
  · refine ⟨1, a, b, c, d, ?_, ?_, ha, hb1, hb2⟩
    · rw [f_Li_isPiece, show f_Fr_become (0 : Int32) (1 : Int32) = some ((0 : Int32), (1 : Int32)) from rfl, z_obs, c_least hN hg (Nat.le_refl _), mn_full fl hN1, z_obs, become_n hN1 (by omega), z_obs, e1', z_obs, nI_1, f1, z_obs, f_Fr_isBelow, nI_l (n := a) (by omega), nI_l (n := b) (by omega), nI_l (n := c) (by omega), nI_l (n := d) (by omega), if_neg hcmp, z_obs, if_neg (by decide)]
    · rw [f_Mo_isPiece, m_tot h, z_obs, gz, show (0 : Int32).toNatClampNeg = 0 from rfl, h.2.2.1, nI_l (n := N) (by omega), nI_l (n := sma fl N) (by omega), e2'', z_obs, if_neg hcmp]
/-- how many: the count goes up from 0, so it never is -1 -/
theorem pieces_both (h : MW r N fl lo) (hg : ∀ L, L ≤ N → g L = nI (mn fl N L)) (q : Int32) : ∀ k n l f (x1 x2 x3 x4 : Int32) (y1 y2 y3 y4 : Int64), k < n → l + k = N + 1 → f ≤ l → ∃ f' a b c d A B C D, f_Li_pieces_L4 (nI N) g n (nI f) (nI l) x1 x2 x3 x4 = some (f', nI (N + 1), a, b, c, d) ∧ f_Mo_piece_L30 r (-1) q n (nI f) (nI l) y1 y2 y3 y4 = some (.inl (f', nI (N + 1), A, B, C, D)) := by
  have hN := h.2.1
  intro k
  induction k with
  | zero =>
    intro n l f x1 x2 x3 x4 y1 y2 y3 y4 hn hl hf
    obtain ⟨m, rfl⟩ : ∃ m, n = m + 1 := ⟨n - 1, by omega⟩
    obtain rfl : l = N + 1 := by omega
    refine ⟨nI f, x1, x2, x3, x4, y1, y2, y3, y4, ?_, ?_⟩
    · rw [f_Li_pieces_L4_s, if_pos (nI_lt (by omega) (by omega))]
    · rw [f_Mo_piece_L30_s, gz, show (0 : Int32).toNatClampNeg = 0 from rfl, h.2.2.1, if_pos (nI_lt (by omega) (by omega))]
  | succ k ih =>
    intro n l f x1 x2 x3 x4 y1 y2 y3 y4 hn hl hf
    obtain ⟨m, rfl⟩ : ∃ m, n = m + 1 := ⟨n - 1, by omega⟩
    obtain ⟨z, a, b, c, d, e1, e2, -⟩ := is_piece h hg (l := l) (by omega)
    have nm : ¬ nI f = (-1 : Int32) := fun e => by
      have h1 : (0 : Int32) ≤ nI f := nI_pos' (by omega)
      rw [e] at h1; exact absurd h1 (by decide)
    rw [f_Li_pieces_L4_s, if_neg (nI_nlt (by omega) (by omega)), e1, z_obs, f_Mo_piece_L30_s, gz, show (0 : Int32).toNatClampNeg = 0 from rfl, h.2.2.1, if_neg (nI_nlt (by omega) (by omega)), e2, z_obs, nI_1, nI_1]
    by_cases hz : z = 0
    · rw [if_pos hz, if_pos hz]
      exact ih m (l + 1) f _ _ _ _ _ _ _ _ (by omega) (by omega) (by omega)
    · rw [if_neg hz, if_neg hz, if_neg nm]
      exact ih m (l + 1) (f + 1) _ _ _ _ _ _ _ _ (by omega) (by omega) (by omega)
/-- the piece k: either none on both sides, or the same length with the same fraction -/
theorem piece_at (h : MW r N fl lo) (hg : ∀ L, L ≤ N → g L = nI (mn fl N L)) (p q : Int32) : ∀ k n l (f : Int32) (x1 x2 x3 x4 : Int32) (y1 y2 y3 y4 : Int64), k < n → l + k = N + 1 → (∃ f' i a b c d A B C D, f_Li_pieceAt_L4 (nI N) g p n f (nI l) x1 x2 x3 x4 = some (.inl (f', i, a, b, c, d)) ∧ f_Mo_piece_L30 r p q n f (nI l) y1 y2 y3 y4 = some (.inl (f', i, A, B, C, D))) ∨ (∃ L a b c d, f_Li_pieceAt_L4 (nI N) g p n f (nI l) x1 x2 x3 x4 = some (.inr (nI L, nI a, nI b, nI c, nI d)) ∧ L ≤ N ∧ a ≤ 3000 ∧ 1 ≤ b ∧ b ≤ 12 ∧ f_Mo_piece_L30 r p q n f (nI l) y1 y2 y3 y4 = (if q = 0 then some (.inr (nI L, lN a, lN b, lN c, lN d)) else if q = (1 : Int32) then Option.bind (f_Mo_part (lN a) (lN b) (1 : Int32)) (fun z19 => some (.inr (z19, lN a, lN b, lN c, lN d))) else Option.bind (f_Mo_part (lN a) (lN b) (0 : Int32)) (fun z18 => some (.inr (z18, lN a, lN b, lN c, lN d))))) := by
  have hN := h.2.1
  intro k
  induction k with
  | zero =>
    intro n l f x1 x2 x3 x4 y1 y2 y3 y4 hn hl
    obtain ⟨m, rfl⟩ : ∃ m, n = m + 1 := ⟨n - 1, by omega⟩
    obtain rfl : l = N + 1 := by omega
    refine .inl ⟨f, nI (N + 1), x1, x2, x3, x4, y1, y2, y3, y4, ?_, ?_⟩
    · rw [f_Li_pieceAt_L4_s, if_pos (nI_lt (by omega) (by omega))]
    · rw [f_Mo_piece_L30_s, gz, show (0 : Int32).toNatClampNeg = 0 from rfl, h.2.2.1, if_pos (nI_lt (by omega) (by omega))]
  | succ k ih =>
    intro n l f x1 x2 x3 x4 y1 y2 y3 y4 hn hl
    obtain ⟨m, rfl⟩ : ∃ m, n = m + 1 := ⟨n - 1, by omega⟩
    obtain ⟨z, a, b, c, d, e1, e2, ha, hb1, hb2⟩ := is_piece h hg (l := l) (by omega)
    rw [f_Li_pieceAt_L4_s, if_neg (nI_nlt (by omega) (by omega)), e1, z_obs, f_Mo_piece_L30_s, gz, show (0 : Int32).toNatClampNeg = 0 from rfl, h.2.2.1, if_neg (nI_nlt (by omega) (by omega)), e2, z_obs, nI_1]
    by_cases hz : z = 0
    · rw [if_pos hz, if_pos hz]
      exact ih m (l + 1) f _ _ _ _ _ _ _ _ (by omega) (by omega)
    · rw [if_neg hz, if_neg hz]
      by_cases hf : f = p
      · rw [if_pos hf, if_pos hf]
        exact .inr ⟨l, a, b, c, d, rfl, by omega, ha, hb1, hb2, rfl⟩
      · rw [if_neg hf, if_neg hf]
        exact ih m (l + 1) (f + 1) _ _ _ _ _ _ _ _ (by omega) (by omega)
end PIE
theorem nI012 {x : Int32} (h : 0 ≤ x ∧ x ≤ (2 : Int32)) : x = 0 ∨ x = 1 ∨ x = 2 := by
  obtain ⟨w, hw, rfl⟩ := nI_rng 2 (by decide) h
  have : w = 0 ∨ w = 1 ∨ w = 2 := by omega
  rcases this with rfl | rfl | rfl
  · exact .inl rfl
  · exact .inr (.inl rfl)
  · exact .inr (.inr rfl)
theorem pl_piece (X : Nat → Int32) (Y ri rl rf : Nat → Nat → Int32) (im : Nat → Option Nat) (vi vl vf : Nat → Nat → Int32) (U : Nat → Int32) (V : Nat → Nat → Int32) (Z : Nat → Int64) (p0 : Int32) (p1 : Int32) (h : Rel X Y ri rl rf im vi vl vf U V Z) : ∃ (out : Int32 × Int32 × (Nat → Int32) × Int32 × Int32 × Int32 × Int32) (mout : Int32 × Int64 × Int64 × Int64 × Int64), f_Ye_piece (X 0) (Y 0) (X 23) (Y 5) (X 24) (X 25) (X 26) (X 27) p0 p1 = some out ∧ f_Mo_piece (Z 0) (Z 1) (Z 2) (Z 3) (V 0) p0 p1 = some mout ∧ out.1 = mout.1 ∧ Rel (va_up (va_up (va_up (va_up (va_up X 23 out.2.1) 24 out.2.2.2.1) 25 out.2.2.2.2.1) 26 out.2.2.2.2.2.1) 27 out.2.2.2.2.2.2) (va_up Y 5 out.2.2.1) ri rl rf im vi vl vf U V (va_up (va_up (va_up (va_up Z 0 mout.2.1) 1 mout.2.2.1) 2 mout.2.2.2.1) 3 mout.2.2.2.2) := by
  have h0 := h
  obtain ⟨⟨hB, hV⟩, hT, hH, hl0, hS, hI⟩ := h
  obtain ⟨N, fl, lo, D, K, T, v, hM, hW⟩ := hV.out
  have hC := hB.cw hM
  have eN : X 0 = nI N := hC.2.2.1
  have hN := hC.2.1
  have hN1 := hC.1
  obtain ⟨g', d1, d2, d3⟩ := c_draw hC (Y 5) hl0
  by_cases hm : p0 = -1
  · subst hm
    by_cases hq : 0 ≤ p1 ∧ p1 ≤ 0
    · obtain ⟨f, a, b, c, d, A, B, C, D', e1, e2⟩ := pieces_both hM d3 p1 (N + 1) FU 0 0 (X 24) (X 25) (X 26) (X 27) (Z 0) (Z 1) (Z 2) (Z 3) (by unfold FU; omega) (by omega) (by omega)
      have e1' : f_Li_pieces_L4 (nI N) g' FU (0 : Int32) (0 : Int32) (X 24) (X 25) (X 26) (X 27) = some (f, nI (N + 1), a, b, c, d) := e1
      have e2' : f_Mo_piece_L30 (V 0) (-1) p1 FU (0 : Int32) (0 : Int32) (Z 0) (Z 1) (Z 2) (Z 3) = some (.inl (f, nI (N + 1), A, B, C, D')) := e2
      refine ⟨(f, nI N, g', a, b, c, d), (f, A, B, C, D'), ?_, ?_, rfl, ⟨hB, hV⟩, hT, hH, d2, hS, hI⟩
      · rw [f_Ye_piece, if_pos rfl, if_neg (by decide), if_neg (by decide), isOut, if_pos hq, z_obs, if_pos rfl, d1, z_obs, f_Li_pieces, e1']; rfl
      · rw [f_Mo_piece, if_neg (by decide), if_pos rfl, mIn, if_pos hq, z_obs, if_neg (by decide), e2', z_obs, Sum.elim_inl, if_pos rfl]
    · refine ⟨(-1, X 23, Y 5, X 24, X 25, X 26, X 27), (-1, Z 0, Z 1, Z 2, Z 3), ?_, ?_, rfl, ?_⟩
      · rw [f_Ye_piece, if_pos rfl, if_neg (by decide), if_neg (by decide), isOut, if_neg hq]; rfl
      · rw [f_Mo_piece, if_neg (by decide), if_pos rfl, mIn, if_neg hq]; rfl
      · simp only [vu_self]; exact h0
  · by_cases hlt : p0 < -1
    · refine ⟨(-1, X 23, Y 5, X 24, X 25, X 26, X 27), (-1, Z 0, Z 1, Z 2, Z 3), ?_, ?_, rfl, ?_⟩
      · rw [f_Ye_piece, if_neg hm, if_pos hlt]
      · rw [f_Mo_piece, if_pos hlt]
      · simp only [vu_self]; exact h0
    · by_cases hq : 0 ≤ p1 ∧ p1 ≤ 2
      · have pa := piece_at hM d3 p0 p1 (N + 1) FU 0 0 (X 24) (X 25) (X 26) (X 27) (Z 0) (Z 1) (Z 2) (Z 3) (by unfold FU; omega) (by omega)
        rw [show nI 0 = (0 : Int32) from rfl] at pa
        have ec : f_Ye_piece (X 0) (Y 0) (X 23) (Y 5) (X 24) (X 25) (X 26) (X 27) p0 p1 = (f_Li_pieceAt (nI N) g' (X 24) (X 25) (X 26) (X 27) p0).bind (fun z8 => if z8.1 = (-9 : Int32) then some (z8.1, nI N, g', z8.2.1, z8.2.2.1, z8.2.2.2.1, z8.2.2.2.2) else if p1 = 0 then some (z8.1, nI N, g', z8.2.1, z8.2.2.1, z8.2.2.2.1, z8.2.2.2.2) else Option.bind (f_Fr_part z8.2.1 z8.2.2.1 (p1 - (1 : Int32))) (fun z11 => some (z11, nI N, g', z8.2.1, z8.2.2.1, z8.2.2.2.1, z8.2.2.2.2))) := by
          rw [f_Ye_piece, if_neg hm, if_neg hlt, if_pos rfl, isOut, if_pos hq, z_obs, if_pos rfl, d1, z_obs]
        have em : f_Mo_piece (Z 0) (Z 1) (Z 2) (Z 3) (V 0) p0 p1 = (f_Mo_piece_L30 (V 0) p0 p1 FU (0 : Int32) (0 : Int32) (Z 0) (Z 1) (Z 2) (Z 3)).bind (fun z8 => Sum.elim (fun x9 => some ((-9 : Int32), x9.2.2.1, x9.2.2.2.1, x9.2.2.2.2.1, x9.2.2.2.2.2)) (fun r => some r) z8) := by
          rw [f_Mo_piece, if_neg hlt, if_neg hm, mIn, if_pos hq, z_obs, if_neg (by decide)]
          simp only [if_neg hm]
        rcases pa with ⟨f, i, a, b, c, d, A, B, C, D', e1, e2⟩ | ⟨L, a, b, c, d, e1, hL, ha, hb1, hb2, e2⟩
        · refine ⟨(-9, nI N, g', a, b, c, d), (-9, A, B, C, D'), ?_, ?_, rfl, ⟨hB, hV⟩, hT, hH, d2, hS, hI⟩
          · rw [ec, f_Li_pieceAt, e1]; rfl
          · rw [em, e2]; rfl
        · have nL : ¬ nI L = (-9 : Int32) := fun e => by
            have h1 : (0 : Int32) ≤ nI L := nI_pos' (by omega)
            rw [e] at h1; exact absurd h1 (by decide)
          rcases nI012 hq with rfl | rfl | rfl
          · refine ⟨(nI L, nI N, g', nI a, nI b, nI c, nI d), (nI L, lN a, lN b, lN c, lN d), ?_, ?_, rfl, ⟨hB, hV⟩, hT, hH, d2, hS, hI⟩
            · rw [ec, f_Li_pieceAt, e1, z_obs, Sum.elim_inr, z_obs, if_neg nL, if_pos rfl]
            · rw [em, e2]; rfl
          · refine ⟨(nI (a / Nat.gcd a b), nI N, g', nI a, nI b, nI c, nI d), (nI (a / Nat.gcd a b), lN a, lN b, lN c, lN d), ?_, ?_, rfl, ⟨hB, hV⟩, hT, hH, d2, hS, hI⟩
            · rw [ec, f_Li_pieceAt, e1, z_obs, Sum.elim_inr, z_obs, if_neg nL, if_neg (by decide), c_part (by omega) hb1 (by omega)]; rfl
            · rw [em, e2, if_neg (by decide), if_pos rfl, m_part (by omega) hb1 (by omega)]; rfl
          · refine ⟨(nI (b / Nat.gcd a b), nI N, g', nI a, nI b, nI c, nI d), (nI (b / Nat.gcd a b), lN a, lN b, lN c, lN d), ?_, ?_, rfl, ⟨hB, hV⟩, hT, hH, d2, hS, hI⟩
            · rw [ec, f_Li_pieceAt, e1, z_obs, Sum.elim_inr, z_obs, if_neg nL, if_neg (by decide), c_part (by omega) hb1 (by omega)]; rfl
            · rw [em, e2, if_neg (by decide), if_neg (by decide), m_part (by omega) hb1 (by omega)]; rfl
      · refine ⟨(-1, X 23, Y 5, X 24, X 25, X 26, X 27), (-1, Z 0, Z 1, Z 2, Z 3), ?_, ?_, rfl, ?_⟩
        · rw [f_Ye_piece, if_neg hm, if_neg hlt, if_pos rfl, isOut, if_neg hq]; rfl
        · rw [f_Mo_piece, if_neg hlt, if_neg hm, mIn, if_neg hq]; rfl
        · simp only [vu_self]; exact h0
