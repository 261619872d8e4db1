/-! ===== a basin in plain numbers: N periods, inflows fl, losses lo ===== -/
def CW (per : Int32) (inf los : Nat → Int32) (N : Nat) (fl lo : Nat → Nat) : Prop := 1 ≤ N ∧ N ≤ 12 ∧ per = nI N ∧ (∀ i, i < 12 → fl i ≤ 99 ∧ inf i = nI (fl i)) ∧ (∀ i, i < 10 → lo i ≤ 9 ∧ los i = nI (lo i))
def MW (r : Nat → Int32) (N : Nat) (fl lo : Nat → Nat) : Prop := 1 ≤ N ∧ N ≤ 12 ∧ r 0 = nI N ∧ (∀ i, i < 12 → fl i ≤ 99 ∧ r (1 + i) = nI (fl i)) ∧ (∀ i, i < 10 → lo i ≤ 9 ∧ r (15 + i) = nI (lo i))
def PW (r : Nat → Int32) (D K T v : Nat) : Prop := D ≤ 99 ∧ K ≤ 999 ∧ T ≤ 999 ∧ v ≤ K ∧ r 13 = nI D ∧ r 14 = nI K ∧ r 25 = nI T ∧ r 26 = nI v
theorem RowV.out {r : Nat → Int32} (h : RowV r) : ∃ (N : Nat) (fl lo : Nat → Nat) (D K T v : Nat), MW r N fl lo ∧ PW r D K T v := by
  obtain ⟨⟨N, h1, h2, h3⟩, ⟨D, h4, h5⟩, ⟨K, v, h6, h7, h8, h9⟩, ⟨T, h10, h11⟩, hf, hl⟩ := h
  have hf' : ∀ i, ∃ f, i < 12 → f ≤ 99 ∧ r (1 + i) = nI f := fun i => by
    by_cases hi : i < 12
    · obtain ⟨f, a, b⟩ := hf i hi; exact ⟨f, fun _ => ⟨a, b⟩⟩
    · exact ⟨0, fun h => absurd h hi⟩
  have hl' : ∀ i, ∃ f, i < 10 → f ≤ 9 ∧ r (15 + i) = nI f := fun i => by
    by_cases hi : i < 10
    · obtain ⟨f, a, b⟩ := hl i hi; exact ⟨f, fun _ => ⟨a, b⟩⟩
    · exact ⟨0, fun h => absurd h hi⟩
  exact ⟨N, fun i => Classical.choose (hf' i), fun i => Classical.choose (hl' i), D, K, T, v, ⟨h1, h2, h3, fun i hi => Classical.choose_spec (hf' i) hi, fun i hi => Classical.choose_spec (hl' i) hi⟩, h4, h7, h10, h6, h5, h8, h11, h9⟩
theorem RowV.mk {r : Nat → Int32} {N : Nat} {fl lo : Nat → Nat} {D K T v : Nat} (h : MW r N fl lo) (g : PW r D K T v) : RowV r := by
  obtain ⟨h1, h2, h3, hf, hl⟩ := h
  obtain ⟨g1, g2, g3, g4, g5, g6, g7, g8⟩ := g
  exact ⟨⟨N, h1, h2, h3⟩, ⟨D, g1, g5⟩, ⟨K, v, g4, g2, g6, g8⟩, ⟨T, g3, g7⟩, fun i hi => ⟨fl i, hf i hi⟩, fun i hi => ⟨lo i, hl i hi⟩⟩
theorem RowB.cw {per dr cap tim vol fai lac spi : Int32} {inf los r : Nat → Int32} {N : Nat} {fl lo : Nat → Nat} (h : RowB per dr cap tim vol fai lac spi inf los r) (g : MW r N fl lo) : CW per inf los N fl lo := by
  obtain ⟨a0, a1, a2, a3, a4, a5, a6, a7, ai, al⟩ := h
  obtain ⟨h1, h2, h3, hf, hl⟩ := g
  exact ⟨h1, h2, a0.symm.trans h3, fun i hi => ⟨(hf i hi).1, (ai i hi).symm.trans (hf i hi).2⟩, fun i hi => ⟨(hl i hi).1, (al i hi).symm.trans (hl i hi).2⟩⟩
def hl (x : Int) (K : Nat) : Nat := if x < 0 then 0 else if (K : Int) < x then K else x.toNat
theorem hl_le (x : Int) (K : Nat) : hl x K ≤ K := by unfold hl; split <;> (try split) <;> omega
section BAS
variable {per : Int32} {inf los r : Nat → Int32} {N : Nat} {fl lo : Nat → Nat}
theorem c_inflow (h : CW per inf los N fl lo) {t : Nat} (ht : t < 2147483648) : f_Ba_inflowOf per inf (nI t) = some (nI (fl (t % N))) := by
  obtain ⟨h1, h2, h3, hf, -⟩ := h
  have hm : t % N < N := Nat.mod_lt _ h1
  have hb : (1 : Int32) ≤ nI N ∧ nI N ≤ (12 : Int32) := ⟨nI_le (a := 1) h1 (by omega), nI_le (b := 12) h2 (by decide)⟩
  rw [f_Ba_inflowOf, h3, isOut, if_pos hb, ← (hf _ (Nat.lt_of_lt_of_le hm h2)).2]
  simp (disch := omega) only [zlit, z_obs, z_lt, z_le, z_eq, z_cl, z_add, z_rem2, z_div, z_mul, if_pos, if_neg, if_true, if_false]
theorem c_loss (h : CW per inf los N fl lo) {v : Nat} (hv : v ≤ 999) : f_Ba_lossOf los (nI v) = some (nI (lo (v / 100))) := by
  obtain ⟨h1, h2, h3, -, hl⟩ := h
  have hm : v / 100 < 10 := by omega
  have e : nI v / (100 : Int32) = nI (v / 100) := z_div (d := 100) (by omega) (by decide) (by decide)
  have hb : (0 : Int32) ≤ nI (v / 100) ∧ nI (v / 100) ≤ (9 : Int32) := nI_rng' (M := 9) (by decide) (by omega)
  rw [f_Ba_lossOf, e, isOut, if_pos hb, ← (hl _ hm).2]
  simp (disch := omega) only [zlit, z_obs, z_lt, z_le, z_eq, z_cl, z_add, z_rem2, z_div, z_mul, if_pos, if_neg, if_true, if_false]
theorem i_lev (v f l d : Nat) : ((nI v + nI f) - nI l) - nI d = iI ((v : Int) + f - l - d) := by
  rw [← iI_nat v, ← iI_nat f, ← iI_nat l, ← iI_nat d, iI_add, iI_sub, iI_sub]
theorem c_level (h : CW per inf los N fl lo) {t v : Nat} (ht : t < 2147483648) (hv : v ≤ 999) (d : Nat) : f_Ba_levelBehind per inf los (nI t) (nI v) (nI d) = some (iI ((v : Int) + fl (t % N) - lo (v / 100) - d)) := by
  rw [f_Ba_levelBehind, c_inflow h ht, z_obs, f_Ba_levelWith, c_loss h hv, z_obs, z_obs, i_lev]
theorem m_flow (h : MW r N fl lo) {t : Nat} (ht : t < 2147483648) : f_Mo_flowAt r (nI t) = some (nI (fl (t % N))) := by
  obtain ⟨h1, h2, h3, hf, -⟩ := h
  have hm : t % N < N := Nat.mod_lt _ h1
  have e0 : (0 : Int32).toNatClampNeg = 0 := rfl
  rw [f_Mo_flowAt, e0, h3, ← (hf _ (Nat.lt_of_lt_of_le hm h2)).2]
  simp (disch := omega) only [zlit, z_obs, z_lt, z_le, z_eq, z_cl, z_add, z_rem2, z_div, z_mul, if_pos, if_neg, if_true, if_false]
theorem m_loss (h : MW r N fl lo) {v : Nat} (hv : v ≤ 999) : f_Mo_lossOf r (nI v) = some (nI (lo (v / 100))) := by
  obtain ⟨h1, h2, h3, -, hl⟩ := h
  have hm : v / 100 < 10 := by omega
  rw [f_Mo_lossOf, ← (hl _ hm).2]
  simp (disch := omega) only [zlit, z_obs, z_lt, z_le, z_eq, z_cl, z_add, z_rem2, z_div, z_mul, if_pos, if_neg, if_true, if_false]
theorem m_raw (h : MW r N fl lo) {v : Nat} (hv : v ≤ 999) (f d : Nat) : f_Mo_rawBehind r (nI v) (nI f) (nI d) = some (iI ((v : Int) + f - lo (v / 100) - d)) := by
  rw [f_Mo_rawBehind, m_loss h hv, z_obs, i_lev]
theorem iI_pos0 {x : Int} (h1 : -100000 ≤ x) (h2 : x ≤ 100000) : ((0 : Int32) ≤ iI x) ↔ (0 ≤ x) := (iI_le (a := 0) (by omega) (by omega) (by omega) (by omega))
theorem iI_leK {x : Int} {K : Nat} (h1 : -100000 ≤ x) (h2 : x ≤ 100000) (hK : K ≤ 100000) : (iI x ≤ nI K) ↔ (x ≤ K) := by
  rw [← iI_nat]; exact (iI_le (by omega) (by omega) (by omega) (by omega))
theorem iI_Klt {x : Int} {K : Nat} (h1 : -100000 ≤ x) (h2 : x ≤ 100000) (hK : K ≤ 100000) : (nI K < iI x) ↔ ((K : Int) < x) := by
  rw [← iI_nat]; exact (iI_lt (by omega) (by omega) (by omega) (by omega))
theorem iI_lt0 {x : Int} (h1 : -100000 ≤ x) (h2 : x ≤ 100000) : (iI x < (0 : Int32)) ↔ (x < 0) := (iI_lt (b := 0) (by omega) (by omega) (by omega) (by omega))
theorem iI_0lt {x : Int} (h1 : -100000 ≤ x) (h2 : x ≤ 100000) : ((0 : Int32) < iI x) ↔ (0 < x) := (iI_lt (a := 0) (by omega) (by omega) (by omega) (by omega))
theorem iI_toNat {x : Int} (h : 0 ≤ x) : iI x = nI x.toNat := by rw [← iI_nat]; congr 1; omega
theorem c_held {x : Int} {K : Nat} (h1 : -100000 ≤ x) (h2 : x ≤ 100000) (hK : K ≤ 999) : f_Ba_held (iI x) (nI K) = some (nI (hl x K)) := by
  unfold f_Ba_held hl
  by_cases a : (K : Int) < x
  · rw [if_pos ((iI_Klt h1 h2 (by omega)).mpr a), if_neg (show ¬ x < 0 by omega), if_pos a]
    by_cases b : K = 0
    · subst b; rfl
    · rw [if_pos (show (0 : Int32) < nI K from nI_lt (a := 0) (by omega) (by omega))]
  · rw [if_neg (fun q => a ((iI_Klt h1 h2 (by omega)).mp q)), if_neg a]
    by_cases b : 0 < x
    · rw [if_pos ((iI_0lt h1 h2).mpr b), if_neg (by omega), iI_toNat (by omega)]
    · rw [if_neg (fun q => b ((iI_0lt h1 h2).mp q))]
      by_cases c : x < 0
      · rw [if_pos c]; rfl
      · rw [if_neg c, show x.toNat = 0 by omega]; rfl
theorem m_kept {x : Int} {K : Nat} (h1 : -100000 ≤ x) (h2 : x ≤ 100000) (hK : K ≤ 999) : f_Mo_kept (iI x) (nI K) = some (nI (hl x K)) := by
  unfold f_Mo_kept hl
  by_cases c : x < 0
  · rw [if_neg (fun q => absurd ((iI_pos0 h1 h2).mp q) (by omega)), if_pos c]; rfl
  · rw [if_pos ((iI_pos0 h1 h2).mpr (by omega)), if_neg c]
    by_cases a : x ≤ K
    · rw [if_pos ((iI_leK h1 h2 (by omega)).mpr a), if_neg (by omega), iI_toNat (by omega)]
    · rw [if_neg (fun q => a ((iI_leK h1 h2 (by omega)).mp q)), if_pos (by omega)]
end BAS
/-- VOLUME behind a period -/
def stp (fl lo : Nat → Nat) (N D K t v : Nat) : Nat := hl ((v : Int) + fl (t % N) - lo (v / 100) - D) K
/-- the level behind a period stays small -/
theorem lev_rng {v f l d : Nat} (hv : v ≤ 999) (hf : f ≤ 99) (hl : l ≤ 9) (hd : d ≤ 99) : -100000 ≤ (v : Int) + f - l - d ∧ (v : Int) + f - l - d ≤ 100000 := by omega
theorem CW.rng {per : Int32} {inf los : Nat → Int32} {N : Nat} {fl lo : Nat → Nat} (h : CW per inf los N fl lo) (t : Nat) {v d : Nat} (hv : v ≤ 999) (hd : d ≤ 99) : -100000 ≤ (v : Int) + fl (t % N) - lo (v / 100) - d ∧ (v : Int) + fl (t % N) - lo (v / 100) - d ≤ 100000 :=
  lev_rng hv (h.2.2.2.1 _ (Nat.lt_of_lt_of_le (Nat.mod_lt _ h.1) h.2.1)).1 (h.2.2.2.2 _ (by omega)).1 hd
theorem MW.rng {r : Nat → Int32} {N : Nat} {fl lo : Nat → Nat} (h : MW r N fl lo) (t : Nat) {v d : Nat} (hv : v ≤ 999) (hd : d ≤ 99) : -100000 ≤ (v : Int) + fl (t % N) - lo (v / 100) - d ∧ (v : Int) + fl (t % N) - lo (v / 100) - d ≤ 100000 :=
  lev_rng hv (h.2.2.2.1 _ (Nat.lt_of_lt_of_le (Nat.mod_lt _ h.1) h.2.1)).1 (h.2.2.2.2 _ (by omega)).1 hd
