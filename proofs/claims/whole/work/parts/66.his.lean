/-! ===== rows that are brought, the history ===== -/
theorem RowB.congr {per dr cap tim vol fai lac spi : Int32} {inf los r r' : Nat → Int32} (h : RowB per dr cap tim vol fai lac spi inf los r) (e : ∀ i, i < 30 → r' i = r i) : RowB per dr cap tim vol fai lac spi inf los r' := by
  obtain ⟨a0, a1, a2, a3, a4, a5, a6, a7, ai, al⟩ := h
  exact ⟨(e _ (by decide)).trans a0, (e _ (by decide)).trans a1, (e _ (by decide)).trans a2, (e _ (by decide)).trans a3, (e _ (by decide)).trans a4, (e _ (by decide)).trans a5, (e _ (by decide)).trans a6, (e _ (by decide)).trans a7, fun i hi => (e _ (by omega)).trans (ai i hi), fun i hi => (e _ (by omega)).trans (al i hi)⟩
theorem RowV.congr {r r' : Nat → Int32} (h : RowV r) (e : ∀ i, i < 30 → r' i = r i) : RowV r' := by
  obtain ⟨⟨N, h1, h2, h3⟩, ⟨D, h4, h5⟩, ⟨K, v, h6, h7, h8, h9⟩, ⟨T, h10, h11⟩, hf, hl⟩ := h
  refine ⟨⟨N, h1, h2, (e _ (by decide)).trans h3⟩, ⟨D, h4, (e _ (by decide)).trans h5⟩, ⟨K, v, h6, h7, (e _ (by decide)).trans h8, (e _ (by decide)).trans h9⟩, ⟨T, h10, (e _ (by decide)).trans h11⟩, fun i hi => ?_, fun i hi => ?_⟩
  · obtain ⟨f, a, b⟩ := hf i hi; exact ⟨f, a, (e _ (by omega)).trans b⟩
  · obtain ⟨f, a, b⟩ := hl i hi; exact ⟨f, a, (e _ (by omega)).trans b⟩
theorem cp12 (f g : Nat → Int32) {i : Nat} (h : i < 12) : va_cpy f g (0 : Int32).toNatClampNeg (0 : Int32).toNatClampNeg (12 : Int32).toNatClampNeg i = f i := by
  show va_cpy f g 0 0 12 i = f i
  rw [pk_cpy_in (by omega) (by omega)]; congr 1; omega
theorem cp10 (f g : Nat → Int32) {i : Nat} (h : i < 10) : va_cpy f g (0 : Int32).toNatClampNeg (0 : Int32).toNatClampNeg (10 : Int32).toNatClampNeg i = f i := by
  show va_cpy f g 0 0 10 i = f i
  rw [pk_cpy_in (by omega) (by omega)]; congr 1; omega
/-- a basin copied holds the same row -/
theorem RowB.cpy {per dr cap tim vol fai lac spi : Int32} {inf los r : Nat → Int32} (g1 g2 : Nat → Int32) (h : RowB per dr cap tim vol fai lac spi inf los r) : RowB per dr cap tim vol fai lac spi (va_cpy inf g1 (0 : Int32).toNatClampNeg (0 : Int32).toNatClampNeg (12 : Int32).toNatClampNeg) (va_cpy los g2 (0 : Int32).toNatClampNeg (0 : Int32).toNatClampNeg (10 : Int32).toNatClampNeg) r := by
  obtain ⟨a0, a1, a2, a3, a4, a5, a6, a7, ai, al⟩ := h
  exact ⟨a0, a1, a2, a3, a4, a5, a6, a7, fun i hi => (ai i hi).trans (cp12 _ _ hi).symm, fun i hi => (al i hi).trans (cp10 _ _ hi).symm⟩
theorem cpy_succ (f g : Nat → Int32) (a b i : Nat) : upd (va_cpy f g a b i) (b + i) (f (a + i)) = va_cpy f g a b (i + 1) := by
  funext j
  rw [upd_eq]
  by_cases h : j = b + i
  · rw [if_pos h, pk_cpy_in (by omega) (by omega)]; congr 1; omega
  · rw [if_neg h]
    by_cases h2 : b ≤ j ∧ j < b + i
    · rw [pk_cpy_in h2.1 h2.2, pk_cpy_in h2.1 (by omega)]
    · rw [pk_cpy_out (by omega), pk_cpy_out (by omega)]
theorem cpy_0 (f g : Nat → Int32) (a b : Nat) : va_cpy f g a b 0 = g := by
  funext j; rw [pk_cpy_out (by omega)]
theorem m_bring_L (n1 : Nat) (f : Nat → Int32) (a n2 : Nat) (g : Nat → Int32) (b : Nat) (ha : a + 30 ≤ n1) (hb : b + 30 ≤ n2) (h1 : n1 < 10000) (h2 : n2 < 10000) : ∀ k n i, k < n → i + k = 30 → f_Mo_bring_L3 n1 f (nI a) n2 (nI b) n (nI i) (va_cpy f g a b i) = some (nI 30, va_cpy f g a b 30) := by
  intro k
  induction k with
  | zero =>
    intro n i hn hi
    obtain ⟨m, rfl⟩ : ∃ m, n = m + 1 := ⟨n - 1, by omega⟩
    obtain rfl : i = 30 := by omega
    rw [f_Mo_bring_L3_s, if_pos (show (30 : Int32) ≤ nI 30 from nI_le (a := 30) (Nat.le_refl _) (by decide))]
  | succ k ih =>
    intro n i hn hi
    obtain ⟨m, rfl⟩ : ∃ m, n = m + 1 := ⟨n - 1, by omega⟩
    rw [f_Mo_bring_L3_s, if_neg (show ¬ (30 : Int32) ≤ nI i from nI_ge (b := 30) (by omega) (by decide)), nI_add, nI_add, if_neg (ixn (by omega) (by omega)), if_neg (ixn (by omega) (by omega)), nI_clamp (by omega), nI_clamp (by omega), cpy_succ, nI_1]
    exact ih m (i + 1) (by omega) (by omega)
theorem m_bring (n1 : Nat) (f : Nat → Int32) (a n2 : Nat) (g : Nat → Int32) (b : Nat) (ha : a + 30 ≤ n1) (hb : b + 30 ≤ n2) (h1 : n1 < 10000) (h2 : n2 < 10000) : f_Mo_bring n1 f (nI a) n2 g (nI b) = some (va_cpy f g a b 30) := by
  have := m_bring_L n1 f a n2 g b ha hb h1 h2 30 FU 0 (by decide) (by omega)
  rw [cpy_0] at this
  rw [f_Mo_bring, show (0 : Int32) = nI 0 from rfl, this]; rfl
def shf (p : Nat → Int32) (i : Nat) : Nat → Int32 := fun j => if j < i then p (j + 30) else p j
theorem m_shift (p : Nat → Int32) : ∀ k n i, k < n → i + k = 150 → f_Mo_note_L11 n (nI i) (shf p i) = some (nI 150, shf p 150) := by
  intro k
  induction k with
  | zero =>
    intro n i hn hi
    obtain ⟨m, rfl⟩ : ∃ m, n = m + 1 := ⟨n - 1, by omega⟩
    obtain rfl : i = 150 := by omega
    rw [f_Mo_note_L11_s, if_pos (show (150 : Int32) ≤ nI 150 from nI_le (a := 150) (Nat.le_refl _) (by decide))]
  | succ k ih =>
    intro n i hn hi
    obtain ⟨m, rfl⟩ : ∃ m, n = m + 1 := ⟨n - 1, by omega⟩
    have e30 : nI i + (30 : Int32) = nI (i + 30) := nI_add i 30
    have es : upd (shf p i) i (shf p i (i + 30)) = shf p (i + 1) := by
      funext j
      rw [upd_eq]
      unfold shf
      by_cases h : j = i
      · subst h; rw [if_pos rfl, if_neg (by omega), if_pos (by omega)]
      · rw [if_neg h]
        by_cases h2 : j < i
        · rw [if_pos h2, if_pos (by omega)]
        · rw [if_neg h2, if_neg (by omega)]
    rw [f_Mo_note_L11_s, if_neg (show ¬ (150 : Int32) ≤ nI i from nI_ge (b := 150) (by omega) (by decide)), e30, if_neg (ixn (by omega) (by omega)), if_neg (ixn (by omega) (by omega)), nI_clamp (by omega), nI_clamp (by omega), es, nI_1]
    exact ih m (i + 1) (by omega) (by omega)
theorem m_note {k : Nat} (hk : k ≤ 6) (now past : Nat → Int32) : ∃ p', f_Mo_note (nI k) now past = some (nI (if k = 6 then 6 else k + 1), p') ∧ (k < 6 → p' = va_cpy now past 0 (30 * k) 30) ∧ (k = 6 → p' = va_cpy now (shf past 150) 0 150 30) := by
  by_cases h6 : k = 6
  · subst h6
    have hs := m_shift past 150 FU 0 (by decide) (by omega)
    have e0 : shf past 0 = past := by funext j; unfold shf; rw [if_neg (by omega)]
    rw [e0] at hs
    refine ⟨va_cpy now (shf past 150) 0 150 30, ?_, fun h => absurd h (by omega), fun _ => rfl⟩
    rw [f_Mo_note, if_pos (show nI 6 = (6 : Int32) from rfl), show (0 : Int32) = nI 0 from rfl, hs, z_obs, show (30 : Int32) * (nI 6 - (1 : Int32)) = nI 150 from rfl, m_bring 30 now 0 180 _ 150 (by decide) (by decide) (by decide) (by decide)]; rfl
  · have h2 : ¬ nI k = (6 : Int32) := fun h => h6 ((nI_eq (b := 6) (by omega) (by decide)).mp h)
    have e30 : (30 : Int32) * nI k = nI (30 * k) := pk_mul 30 k
    refine ⟨va_cpy now past 0 (30 * k) 30, ?_, fun _ => rfl, fun h => absurd h h6⟩
    rw [f_Mo_note, if_neg h2, e30, show (0 : Int32) = nI 0 from rfl, m_bring 30 now 0 180 _ (30 * k) (by decide) (by omega) (by decide) (by decide), z_obs, nI_1, if_neg h6]
theorem rem6 {a : Nat} (h : a < 1000) : (nI a - nI a / (6 : Int32) * (6 : Int32)) = nI (a % 6) := z_rem (d := 6) (by omega) (by decide) (by decide)
/-- what can be undone grows by what is now -/
theorem his_push {nx kn un : Int32} {ri rl rf : Nat → Nat → Int32} {past now : Nat → Int32} {b0 b1 b2 b3 b4 b5 b6 b7 : Int32} {inf los : Nat → Int32} (h : RHis nx kn un ri rl rf past) (hB : RowB b0 b1 b2 b3 b4 b5 b6 b7 inf los now) (hV : RowV now) : ∃ oy om, f_Hi_remember nx kn ri rl rf b0 b1 b2 b3 b4 b5 b6 b7 inf los = some oy ∧ f_Mo_note un now past = some om ∧ RHis oy.1 oy.2.1 om.1 oy.2.2.1 oy.2.2.2.1 oy.2.2.2.2 om.2 := by
  obtain ⟨x, k, hx, hk, rfl, rfl, rfl, hrow⟩ := h
  obtain ⟨p', hn, hlt, heq⟩ := m_note hk now past
  have ec : (nI x).toNatClampNeg = x := nI_clamp (by omega)
  have e1 : nI x + (1 : Int32) = nI (x + 1) := nI_1 x
  have e2 : nI k + (1 : Int32) = nI (k + 1) := nI_1 k
  refine ⟨_, _, if_neg (ixn hx (by decide)), hn, ?_⟩
  show RHis ((nI x + (1 : Int32)) - (nI x + (1 : Int32)) / (6 : Int32) * (6 : Int32)) (if (6 : Int32) < (nI k + (1 : Int32)) then (6 : Int32) else (nI k + (1 : Int32))) (nI (if k = 6 then 6 else k + 1)) (va_up ri (nI x).toNatClampNeg _) (va_up rl (nI x).toNatClampNeg _) (va_up rf (nI x).toNatClampNeg _) p'
  rw [ec, e1, e2, rem6 (by omega)]
  have hB' := hB.cpy (ri x) (rl x)
  by_cases h6 : k = 6
  · subst h6
    obtain rfl := heq rfl
    refine ⟨(x + 1) % 6, 6, by omega, by omega, rfl, rfl, rfl, fun j hj => ⟨_, rfl, ?_⟩⟩
    by_cases h5 : j = 5
    · subst h5
      rw [show ((x + 1) % 6 + 6 - 6 + 5) % 6 = x by omega]
      have er : ∀ i, i < 30 → rowAt (va_cpy now (shf past 150) 0 150 30) (30 * 5) i = now i := fun i hi => by
        show va_cpy now _ 0 150 30 (150 + i) = now i
        rw [pk_cpy_in (by omega) (by omega), show 0 + (150 + i - 150) = i by omega]
      refine ⟨?_, hV.congr er⟩
      simp only [va_up, if_true]
      exact hB'.congr er
    · obtain ⟨q, hq, r1, r2⟩ := hrow (j + 1) (by omega)
      have eq' : ((x + 1) % 6 + 6 - 6 + j) % 6 = q := by omega
      have hne : ¬ q = x := by omega
      have er : ∀ i, i < 30 → rowAt (va_cpy now (shf past 150) 0 150 30) (30 * j) i = rowAt past (30 * (j + 1)) i := fun i hi => by
        show va_cpy now _ 0 150 30 (30 * j + i) = past (30 * (j + 1) + i)
        rw [pk_cpy_out (by omega)]
        unfold shf
        rw [if_pos (by omega), show 30 * j + i + 30 = 30 * (j + 1) + i by omega]
      rw [eq']
      refine ⟨?_, r2.congr er⟩
      simp only [va_up, if_neg hne]
      exact r1.congr er
  · obtain rfl := hlt (by omega)
    have e3 : ¬ (6 : Int32) < nI (k + 1) := nI_nlt (a := 6) (by omega) (by decide)
    refine ⟨(x + 1) % 6, k + 1, by omega, by omega, rfl, if_neg e3, by rw [if_neg h6], fun j hj => ⟨_, rfl, ?_⟩⟩
    by_cases hjk : j = k
    · subst hjk
      rw [show ((x + 1) % 6 + 6 - (j + 1) + j) % 6 = x by omega]
      have er : ∀ i, i < 30 → rowAt (va_cpy now past 0 (30 * j) 30) (30 * j) i = now i := fun i hi => by
        show va_cpy now _ 0 (30 * j) 30 (30 * j + i) = now i
        rw [pk_cpy_in (by omega) (by omega), show 0 + (30 * j + i - 30 * j) = i by omega]
      refine ⟨?_, hV.congr er⟩
      simp only [va_up, if_true]
      exact hB'.congr er
    · obtain ⟨q, hq, r1, r2⟩ := hrow j (by omega)
      have eq' : ((x + 1) % 6 + 6 - (k + 1) + j) % 6 = q := by omega
      have hne : ¬ q = x := by omega
      have er : ∀ i, i < 30 → rowAt (va_cpy now past 0 (30 * k) 30) (30 * j) i = rowAt past (30 * j) i := fun i hi => by
        show va_cpy now _ 0 (30 * k) 30 (30 * j + i) = past (30 * j + i)
        rw [pk_cpy_out (by omega)]
      rw [eq']
      refine ⟨?_, r2.congr er⟩
      simp only [va_up, if_neg hne]
      exact r1.congr er
