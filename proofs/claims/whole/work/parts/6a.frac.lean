/-! ===== fractions in least terms ===== -/
theorem half_rem {b r : Nat} (h0 : 0 < r) (h : r < b) : 2 * (b % r) < b := by
  by_cases h2 : 2 * r ≤ b
  · have := Nat.mod_lt b h0; omega
  · have : b % r = b - r := by
      rw [Nat.mod_eq_sub_mod (by omega), Nat.mod_eq_of_lt (by omega)]
    omega
theorem lg_0 (x y : Int64) : (lg_cmp x y = 0) ↔ x = y := by
  unfold lg_cmp
  by_cases h : x > y
  · rw [if_pos h]
    constructor
    · intro q; exact absurd q (by decide)
    · intro q; subst q; exact absurd h (Int64.lt_irrefl)
  · rw [if_neg h]
    by_cases h2 : x = y
    · rw [if_pos h2]; exact ⟨fun _ => h2, fun _ => rfl⟩
    · rw [if_neg h2]; exact ⟨fun q => absurd q (by decide), fun q => absurd q h2⟩
theorem c_gcd_L : ∀ k a b n i, a < 2147483648 → b < 2 ^ k → k ≤ 31 → 2 * k + 1 ≤ n → i + (2 * k + 1) ≤ 100 → ∃ y z, f_Fr_greatestDivisor_L7 n (nI a) (nI b) (nI i) = some (nI (Nat.gcd a b), y, z) := by
  intro k
  induction k with
  | zero =>
    intro a b n i ha hb hk hn hi
    obtain ⟨m, rfl⟩ : ∃ m, n = m + 1 := ⟨n - 1, by omega⟩
    obtain rfl : b = 0 := by simpa using hb
    rw [f_Fr_greatestDivisor_L7_s, if_neg (show ¬ (100 : Int32) ≤ nI i from nI_ge (b := 100) (by omega) (by decide)), if_pos (show nI 0 ≤ (0 : Int32) by decide), Nat.gcd_zero_right]
    exact ⟨_, _, rfl⟩
  | succ k ih =>
    intro a b n i ha hb hk hn hi
    obtain ⟨m, rfl⟩ : ∃ m, n = m + 1 := ⟨n - 1, by omega⟩
    have hp : 2 ^ (k + 1) ≤ 2147483648 := by
      have : 2 ^ (k + 1) ≤ 2 ^ 31 := Nat.pow_le_pow_right (by decide) hk
      simpa using this
    have hi100 : ¬ (100 : Int32) ≤ nI i := nI_ge (b := 100) (by omega) (by decide)
    by_cases h0 : b = 0
    · subst h0
      rw [f_Fr_greatestDivisor_L7_s, if_neg hi100, if_pos (show nI 0 ≤ (0 : Int32) by decide), Nat.gcd_zero_right]
      exact ⟨_, _, rfl⟩
    · have c0 : ¬ nI b ≤ (0 : Int32) := nI_ge (a := 0) (by omega) (by omega)
      have c1 : ¬ nI b = (0 : Int32) := fun z => h0 ((nI_eq (b := 0) (by omega) (by decide)).mp z)
      have hr : a % b < b := Nat.mod_lt _ (by omega)
      rw [f_Fr_greatestDivisor_L7_s, if_neg hi100, if_neg c0, if_neg c1, z_rem ha (by omega) (by omega), nI_1]
      have eg : Nat.gcd a b = Nat.gcd b (a % b) := by rw [Nat.gcd_comm a b, Nat.gcd_rec b a, Nat.gcd_comm]
      rw [eg]
      obtain ⟨m2, rfl⟩ : ∃ m2, m = m2 + 1 := ⟨m - 1, by omega⟩
      have hi101 : ¬ (100 : Int32) ≤ nI (i + 1) := nI_ge (b := 100) (by omega) (by decide)
      by_cases h2 : a % b = 0
      · rw [h2, f_Fr_greatestDivisor_L7_s, if_neg hi101, if_pos (show nI 0 ≤ (0 : Int32) by decide), Nat.gcd_zero_right]
        exact ⟨_, _, rfl⟩
      · have d0 : ¬ nI (a % b) ≤ (0 : Int32) := nI_ge (a := 0) (by omega) (by omega)
        have d1 : ¬ nI (a % b) = (0 : Int32) := fun z => h2 ((nI_eq (b := 0) (by omega) (by decide)).mp z)
        have hh := half_rem (b := b) (r := a % b) (by omega) hr
        rw [f_Fr_greatestDivisor_L7_s, if_neg hi101, if_neg d0, if_neg d1, z_rem (by omega) (by omega) (by omega), nI_1]
        have eg2 : Nat.gcd b (a % b) = Nat.gcd (a % b) (b % (a % b)) := by rw [Nat.gcd_comm b, Nat.gcd_rec (a % b) b, Nat.gcd_comm]
        rw [eg2]
        exact ih (a % b) (b % (a % b)) m2 (i + 1 + 1) (by omega) (by rw [Nat.pow_succ] at hb; omega) (by omega) (by omega) (by omega)
theorem c_gcd {a b : Nat} (ha : a < 2147483648) (hb : b < 2147483648) : f_Fr_greatestDivisor (nI a) (nI b) = some (nI (Nat.gcd a b)) := by
  obtain ⟨y, z, e⟩ := c_gcd_L 31 a b FU 0 ha hb (by decide) (by decide) (by decide)
  have e' : f_Fr_greatestDivisor_L7 FU (nI a) (nI b) (0 : Int32) = some (nI (Nat.gcd a b), y, z) := e
  rw [f_Fr_greatestDivisor, e']; rfl
theorem m_gcd_L : ∀ k a b n, a < 2147483648 → b < 2 ^ k → k ≤ 31 → 2 * k + 1 ≤ n → ∃ y, f_Mo_common_L6 n (lN a) (lN b) = some (lN (Nat.gcd a b), y) := by
  intro k
  induction k with
  | zero =>
    intro a b n ha hb hk hn
    obtain ⟨m, rfl⟩ : ∃ m, n = m + 1 := ⟨n - 1, by omega⟩
    obtain rfl : b = 0 := by simpa using hb
    rw [f_Mo_common_L6_s, if_pos (show lg_cmp (lN 0) (0 : Int64) = 0 from (lg_0 _ _).mpr rfl), Nat.gcd_zero_right]
    exact ⟨_, rfl⟩
  | succ k ih =>
    intro a b n ha hb hk hn
    obtain ⟨m, rfl⟩ : ∃ m, n = m + 1 := ⟨n - 1, by omega⟩
    have hp : 2 ^ (k + 1) ≤ 2147483648 := by
      have : 2 ^ (k + 1) ≤ 2 ^ 31 := Nat.pow_le_pow_right (by decide) hk
      simpa using this
    by_cases h0 : b = 0
    · subst h0
      rw [f_Mo_common_L6_s, if_pos (show lg_cmp (lN 0) (0 : Int64) = 0 from (lg_0 _ _).mpr rfl), Nat.gcd_zero_right]
      exact ⟨_, rfl⟩
    · have c1 : ¬ lN b = (0 : Int64) := fun z => h0 ((pk_lEQ (b := 0) (by omega) (by decide)).mp z)
      have hr : a % b < b := Nat.mod_lt _ (by omega)
      rw [f_Mo_common_L6_s, if_neg (fun z => c1 ((lg_0 _ _).mp z)), if_neg c1, pk_lRem (by omega) (by omega) (by omega)]
      have eg : Nat.gcd a b = Nat.gcd b (a % b) := by rw [Nat.gcd_comm a b, Nat.gcd_rec b a, Nat.gcd_comm]
      rw [eg]
      obtain ⟨m2, rfl⟩ : ∃ m2, m = m2 + 1 := ⟨m - 1, by omega⟩
      by_cases h2 : a % b = 0
      · rw [h2, f_Mo_common_L6_s, if_pos (show lg_cmp (lN 0) (0 : Int64) = 0 from (lg_0 _ _).mpr rfl), Nat.gcd_zero_right]
        exact ⟨_, rfl⟩
      · have d1 : ¬ lN (a % b) = (0 : Int64) := fun z => h2 ((pk_lEQ (b := 0) (by omega) (by decide)).mp z)
        have hh := half_rem (b := b) (r := a % b) (by omega) hr
        rw [f_Mo_common_L6_s, if_neg (fun z => d1 ((lg_0 _ _).mp z)), if_neg d1, pk_lRem (by omega) (by omega) (by omega)]
        have eg2 : Nat.gcd b (a % b) = Nat.gcd (a % b) (b % (a % b)) := by rw [Nat.gcd_comm b, Nat.gcd_rec (a % b) b, Nat.gcd_comm]
        rw [eg2]
        exact ih (a % b) (b % (a % b)) m2 (by omega) (by rw [Nat.pow_succ] at hb; omega) (by omega) (by omega)
theorem m_gcd {a b : Nat} (ha : a < 2147483648) (hb : b < 2147483648) : f_Mo_common (lN a) (lN b) = some (lN (Nat.gcd a b)) := by
  obtain ⟨y, e⟩ := m_gcd_L 31 a b FU ha hb (by decide) (by decide)
  rw [f_Mo_common, e]; rfl
theorem gcd_rng {a b : Nat} (hb : 1 ≤ b) (hb2 : b < 2147483648) : 1 ≤ Nat.gcd a b ∧ Nat.gcd a b < 2147483648 := by
  have h1 : 0 < Nat.gcd a b := Nat.gcd_pos_of_pos_right a (by omega)
  have h2 : Nat.gcd a b ≤ b := Nat.gcd_le_right a (by omega)
  omega
theorem c_part {a b : Nat} (ha : a < 2147483648) (hb : 1 ≤ b) (hb2 : b < 2147483648) (w : Int32) : f_Fr_part (nI a) (nI b) w = some (nI ((if w = 0 then a else b) / Nat.gcd a b)) := by
  obtain ⟨g1, g2⟩ := gcd_rng (a := a) hb hb2
  have e : (if (1 : Int32) < nI (Nat.gcd a b) then nI (Nat.gcd a b) else (1 : Int32)) = nI (Nat.gcd a b) := by
    by_cases h1 : Nat.gcd a b = 1
    · rw [h1]; rfl
    · rw [if_pos (show (1 : Int32) < nI (Nat.gcd a b) from nI_lt (a := 1) (by omega) (by omega))]
  have ne : ¬ nI (Nat.gcd a b) = (0 : Int32) := fun z => absurd ((nI_eq (b := 0) (by omega) (by decide)).mp z) (by omega)
  rw [f_Fr_part, c_gcd ha hb2, z_obs, e]
  by_cases hw : w = 0
  · rw [if_pos hw, if_neg ne, if_pos hw, z_div ha (by omega) (by omega)]
  · rw [if_neg hw, if_neg ne, if_neg hw, z_div hb2 (by omega) (by omega)]
theorem m_part {a b : Nat} (ha : a < 2147483648) (hb : 1 ≤ b) (hb2 : b < 2147483648) (u : Int32) : f_Mo_part (lN a) (lN b) u = some (nI ((if u = 0 then b else a) / Nat.gcd a b)) := by
  obtain ⟨g1, g2⟩ := gcd_rng (a := a) hb hb2
  have ne : ¬ lN (Nat.gcd a b) = (0 : Int64) := fun z => absurd ((pk_lEQ (b := 0) (by omega) (by decide)).mp z) (by omega)
  rw [f_Mo_part, m_gcd ha hb2, z_obs]
  by_cases hu : u = 0
  · rw [if_pos hu, if_neg ne, if_pos hu, pk_lDiv (by omega) (by omega) (by omega), lN_i]
  · rw [if_neg hu, if_neg ne, if_neg hu, pk_lDiv (by omega) (by omega) (by omega), lN_i]
