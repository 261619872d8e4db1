/-! ===== THE TEXT: an item ===== -/
def qT : Nat → Nat | 0 => 1 | 1 => 13 | 2 => 14 | _ => 15
def qF : Nat → Nat | 0 => 1 | 1 => 1 | 2 => 1 | _ => 10
def qM : Nat → Nat | 0 => 12 | 1 => 1 | 2 => 1 | _ => 10
def qG : Nat → Nat | 0 => 99 | 1 => 99 | 2 => 999 | _ => 9
def kb : Nat → Int32 | 0 => 1 | 1 => 2 | 2 => 4 | _ => 8
theorem k4 {k : Nat} (h : k < 4) : k = 0 ∨ k = 1 ∨ k = 2 ∨ k = 3 := by omega
theorem sF_n {k : Nat} (h : k < 4) : sF k = nI (qF k) := by rcases k4 h with rfl | rfl | rfl | rfl <;> rfl
theorem sM_n {k : Nat} (h : k < 4) : sM k = nI (qM k) := by rcases k4 h with rfl | rfl | rfl | rfl <;> rfl
theorem sG_n {k : Nat} (h : k < 4) : sG k = nI (qG k) := by rcases k4 h with rfl | rfl | rfl | rfl <;> rfl
theorem q_rng {k : Nat} (h : k < 4) : 1 ≤ qF k ∧ qF k ≤ qM k ∧ qM k ≤ 12 ∧ qG k ≤ 999 ∧ qT k + qM k ≤ 25 ∧ 1 ≤ qT k := by rcases k4 h with rfl | rfl | rfl | rfl <;> decide
/-- what is read, within the document's bounds -/
def BV (r : Nat → Int32) : Prop := (∃ N, 1 ≤ N ∧ N ≤ 12 ∧ r 0 = nI N) ∧ (∃ D, D ≤ 99 ∧ r 13 = nI D) ∧ (∃ K, K ≤ 999 ∧ r 14 = nI K) ∧ (∀ i, i < 12 → ∃ f, f ≤ 99 ∧ r (1 + i) = nI f) ∧ (∀ i, i < 10 → ∃ f, f ≤ 9 ∧ r (15 + i) = nI f)
def IR (k ν : Nat) (per dr cap : Int32) (inf los r : Nat → Int32) : Prop := RowB (r 0) dr cap 0 0 0 0 0 inf los r ∧ per = (if k = 0 ∧ 0 < ν then nI ν else r 0) ∧ BV r
def TR (per dr cap : Int32) (inf los r : Nat → Int32) : Prop := RowB per dr cap 0 0 0 0 0 inf los r ∧ BV r
theorem TR.ir {per dr cap : Int32} {inf los r : Nat → Int32} (h : TR per dr cap inf los r) (k : Nat) : IR k 0 per dr cap inf los r := by
  obtain ⟨⟨a0, a⟩, b⟩ := h
  refine ⟨⟨rfl, a⟩, ?_, b⟩
  rw [if_neg (fun q => absurd q.2 (by omega))]; exact a0.symm
theorem upd_self (r : Nat → Int32) (k : Nat) : upd r k (r k) = r := by
  funext j
  by_cases h : j = k
  · subst h; rw [upd_at]
  · rw [upd_ne h]
theorem IR.tr0 {ν : Nat} {per dr cap : Int32} {inf los r : Nat → Int32} (h : IR 0 ν per dr cap inf los r) (h1 : 1 ≤ ν) (h2 : ν ≤ 12) : TR per dr cap inf los (upd r 0 (nI ν)) := by
  obtain ⟨⟨a0, a1, a2, a3, a4, a5, a6, a7, ai, al⟩, e, b0, ⟨D, b1, b2⟩, ⟨K, b3, b4⟩, bf, bl⟩ := h
  rw [if_pos ⟨rfl, h1⟩] at e
  subst e
  have u : ∀ j, j ≠ 0 → upd r 0 (nI ν) j = r j := fun j hj => upd_ne hj
  refine ⟨⟨upd_at .., (u 13 (by decide)).trans a1, (u 14 (by decide)).trans a2, (u 25 (by decide)).trans a3, (u 26 (by decide)).trans a4, (u 27 (by decide)).trans a5, (u 28 (by decide)).trans a6, (u 29 (by decide)).trans a7, fun i hi => (u _ (by omega)).trans (ai i hi), fun i hi => (u _ (by omega)).trans (al i hi)⟩, ⟨ν, h1, h2, upd_at ..⟩, ⟨D, b1, (u 13 (by decide)).trans b2⟩, ⟨K, b3, (u 14 (by decide)).trans b4⟩, fun i hi => ?_, fun i hi => ?_⟩
  · obtain ⟨f, x, y⟩ := bf i hi; exact ⟨f, x, (u _ (by omega)).trans y⟩
  · obtain ⟨f, x, y⟩ := bl i hi; exact ⟨f, x, (u _ (by omega)).trans y⟩
theorem IR.trk {k ν : Nat} {per dr cap : Int32} {inf los r : Nat → Int32} (h : IR k ν per dr cap inf los r) (hk : k ≠ 0) : TR per dr cap inf los r := by
  obtain ⟨a, e, b⟩ := h
  rw [if_neg (fun q => hk q.1)] at e
  subst e; exact ⟨a, b⟩
/-- a number taken, on both sides -/
theorem c_tn_ok {k ν v : Nat} {per dr cap : Int32} {inf los r : Nat → Int32} (hk : k < 4) (hν : ν < qM k) (hv : v ≤ qG k) (h : IR k ν per dr cap inf los r) : ∃ per' dr' cap' inf' los', f_Te_takesNumber (nI k) (nI ν) (nI v) per dr cap inf los = some (1, nI (ν + 1), per', dr', cap', inf', los') ∧ IR k (ν + 1) per' dr' cap' inf' los' (upd r (qT k + ν) (nI v)) := by
  obtain ⟨q1, q2, q3, q4, q5, q6⟩ := q_rng hk
  obtain ⟨⟨a0, a1, a2, a3, a4, a5, a6, a7, ai, al⟩, e, ⟨N, bN1, bN2, bN3⟩, ⟨D, b1, b2⟩, ⟨K, b3, b4⟩, bf, bl⟩ := h
  have hm1 : ¬ nI v = (-1 : Int32) := nI_nm (by omega) _ (by decide)
  have hk4 : ¬ (4 : Int32) ≤ nI k := nI_ge (b := 4) hk (by decide)
  have e0 : f_Te_takesNumber (nI k) (nI ν) (nI v) per dr cap inf los = (if (sK k) = (99 : Int32) then some ((1 : Int32), nI (ν + 1), per, dr, nI v, inf, los) else if (sK k) = (100 : Int32) then some ((1 : Int32), nI (ν + 1), per, nI v, cap, inf, los) else if (sK k) = (105 : Int32) then Option.bind (f_Ba_addInflow per inf (nI ν) (nI v)) (fun z10 => some ((1 : Int32), nI (ν + 1), z10.1, dr, cap, z10.2, los)) else Option.bind (f_Ba_changeLoss los (nI ν) (nI v)) (fun z11 => some ((1 : Int32), nI (ν + 1), per, dr, cap, inf, z11))) := by
    rw [f_Te_takesNumber, if_neg (nI_pos (by omega)), if_neg hk4, if_neg hm1, if_neg (ixn hk (by decide)), nI_clamp (by omega), sM_n hk, if_neg (nI_ge hν (by omega)), sG_n hk, if_pos (nI_le hv (by omega)), nI_1]
  have u : ∀ {j}, j ≠ qT k + ν → upd r (qT k + ν) (nI v) j = r j := fun hj => upd_ne hj
  rcases k4 hk with rfl | rfl | rfl | rfl
  · have hν' : ν < 12 := hν
    have u : ∀ {j}, j ≠ 1 + ν → upd r (1 + ν) (nI v) j = r j := fun hj => upd_ne hj
    refine ⟨nI (ν + 1), dr, cap, upd inf ν (nI v), los, ?_, ?_⟩
    · rw [e0, if_neg (by decide), if_neg (by decide), if_pos (show sK 0 = 105 from rfl), f_Ba_addInflow, isOut, if_pos (show (0 : Int32) ≤ nI ν ∧ nI ν ≤ (11 : Int32) from nI_rng' (M := 11) (by decide) (by omega)), z_obs, if_pos rfl, if_neg (ixn hν' (by decide)), z_obs, nI_clamp (by omega), nI_1]
    · show RowB (upd r (1 + ν) (nI v) 0) _ _ _ _ _ _ _ _ _ (upd r (1 + ν) (nI v)) ∧ nI (ν + 1) = (if 0 = 0 ∧ 0 < ν + 1 then nI (ν + 1) else (upd r (1 + ν) (nI v)) 0) ∧ BV (upd r (1 + ν) (nI v))
      refine ⟨⟨rfl, (u (by omega)).trans a1, (u (by omega)).trans a2, (u (by omega)).trans a3, (u (by omega)).trans a4, (u (by omega)).trans a5, (u (by omega)).trans a6, (u (by omega)).trans a7, fun i hi => ?_, fun i hi => (u (by omega)).trans (al i hi)⟩, by rw [if_pos ⟨rfl, by omega⟩], ⟨N, bN1, bN2, (u (by omega)).trans bN3⟩, ⟨D, b1, (u (by omega)).trans b2⟩, ⟨K, b3, (u (by omega)).trans b4⟩, fun i hi => ?_, fun i hi => ?_⟩
      · by_cases hx : i = ν
        · subst hx; rw [upd_at, upd_at]
        · rw [u (by omega), upd_ne hx]; exact ai i hi
      · by_cases hx : i = ν
        · subst hx; exact ⟨v, hv, upd_at ..⟩
        · obtain ⟨f, x, y⟩ := bf i hi; exact ⟨f, x, (u (by omega)).trans y⟩
      · obtain ⟨f, x, y⟩ := bl i hi; exact ⟨f, x, (u (by omega)).trans y⟩
  · obtain rfl : ν = 0 := by have : ν < 1 := hν; omega
    have u : ∀ {j}, j ≠ 13 → upd r 13 (nI v) j = r j := fun hj => upd_ne hj
    refine ⟨per, nI v, cap, inf, los, ?_, ?_⟩
    · rw [e0, if_neg (by decide), if_pos (show sK 1 = 100 from rfl)]
    · show RowB (upd r 13 (nI v) 0) _ _ _ _ _ _ _ _ _ (upd r 13 (nI v)) ∧ per = (if 1 = 0 ∧ 0 < 0 + 1 then nI (0 + 1) else (upd r 13 (nI v)) 0) ∧ BV (upd r 13 (nI v))
      refine ⟨⟨rfl, upd_at .., (u (by omega)).trans a2, (u (by omega)).trans a3, (u (by omega)).trans a4, (u (by omega)).trans a5, (u (by omega)).trans a6, (u (by omega)).trans a7, fun i hi => (u (by omega)).trans (ai i hi), fun i hi => (u (by omega)).trans (al i hi)⟩, by rw [if_neg (by omega), u (by omega), e, if_neg (by omega)], ⟨N, bN1, bN2, (u (by omega)).trans bN3⟩, ⟨v, hv, upd_at ..⟩, ⟨K, b3, (u (by omega)).trans b4⟩, fun i hi => ?_, fun i hi => ?_⟩
      · obtain ⟨f, x, y⟩ := bf i hi; exact ⟨f, x, (u (by omega)).trans y⟩
      · obtain ⟨f, x, y⟩ := bl i hi; exact ⟨f, x, (u (by omega)).trans y⟩
  · obtain rfl : ν = 0 := by have : ν < 1 := hν; omega
    have u : ∀ {j}, j ≠ 14 → upd r 14 (nI v) j = r j := fun hj => upd_ne hj
    refine ⟨per, dr, nI v, inf, los, ?_, ?_⟩
    · rw [e0, if_pos (show sK 2 = 99 from rfl)]
    · show RowB (upd r 14 (nI v) 0) _ _ _ _ _ _ _ _ _ (upd r 14 (nI v)) ∧ per = (if 2 = 0 ∧ 0 < 0 + 1 then nI (0 + 1) else (upd r 14 (nI v)) 0) ∧ BV (upd r 14 (nI v))
      refine ⟨⟨rfl, (u (by omega)).trans a1, upd_at .., (u (by omega)).trans a3, (u (by omega)).trans a4, (u (by omega)).trans a5, (u (by omega)).trans a6, (u (by omega)).trans a7, fun i hi => (u (by omega)).trans (ai i hi), fun i hi => (u (by omega)).trans (al i hi)⟩, by rw [if_neg (by omega), u (by omega), e, if_neg (by omega)], ⟨N, bN1, bN2, (u (by omega)).trans bN3⟩, ⟨D, b1, (u (by omega)).trans b2⟩, ⟨v, hv, upd_at ..⟩, fun i hi => ?_, fun i hi => ?_⟩
      · obtain ⟨f, x, y⟩ := bf i hi; exact ⟨f, x, (u (by omega)).trans y⟩
      · obtain ⟨f, x, y⟩ := bl i hi; exact ⟨f, x, (u (by omega)).trans y⟩
  · have hν' : ν < 10 := hν
    have u : ∀ {j}, j ≠ 15 + ν → upd r (15 + ν) (nI v) j = r j := fun hj => upd_ne hj
    refine ⟨per, dr, cap, inf, upd los ν (nI v), ?_, ?_⟩
    · rw [e0, if_neg (by decide), if_neg (by decide), if_neg (by decide), f_Ba_changeLoss, isOut, if_pos (show (0 : Int32) ≤ nI ν ∧ nI ν ≤ (9 : Int32) from nI_rng' (M := 9) (by decide) (by omega)), z_obs, if_pos rfl, if_neg (ixn hν' (by decide)), z_obs, nI_clamp (by omega)]
    · show RowB (upd r (15 + ν) (nI v) 0) _ _ _ _ _ _ _ _ _ (upd r (15 + ν) (nI v)) ∧ per = (if 3 = 0 ∧ 0 < ν + 1 then nI (ν + 1) else (upd r (15 + ν) (nI v)) 0) ∧ BV (upd r (15 + ν) (nI v))
      refine ⟨⟨rfl, (u (by omega)).trans a1, (u (by omega)).trans a2, (u (by omega)).trans a3, (u (by omega)).trans a4, (u (by omega)).trans a5, (u (by omega)).trans a6, (u (by omega)).trans a7, fun i hi => (u (by omega)).trans (ai i hi), fun i hi => ?_⟩, by rw [if_neg (by omega), u (by omega), e, if_neg (by omega)], ⟨N, bN1, bN2, (u (by omega)).trans bN3⟩, ⟨D, b1, (u (by omega)).trans b2⟩, ⟨K, b3, (u (by omega)).trans b4⟩, fun i hi => ?_, fun i hi => ?_⟩
      · by_cases hx : i = ν
        · subst hx; rw [upd_at, upd_at]
        · rw [u (by omega), upd_ne hx]; exact al i hi
      · obtain ⟨f, x, y⟩ := bf i hi; exact ⟨f, x, (u (by omega)).trans y⟩
      · by_cases hx : i = ν
        · subst hx; exact ⟨v, hv, upd_at ..⟩
        · obtain ⟨f, x, y⟩ := bl i hi; exact ⟨f, x, (u (by omega)).trans y⟩
theorem c_tn_no {k ν v : Nat} (hk : k < 4) (hν : ν ≤ 12) (hv : v ≤ 999) (h : qM k ≤ ν ∨ qG k < v) (per dr cap : Int32) (inf los : Nat → Int32) : f_Te_takesNumber (nI k) (nI ν) (nI v) per dr cap inf los = some (0, nI ν, per, dr, cap, inf, los) := by
  obtain ⟨q1, q2, q3, q4, q5, q6⟩ := q_rng hk
  have hm1 : ¬ nI v = (-1 : Int32) := nI_nm (by omega) _ (by decide)
  have hk4 : ¬ (4 : Int32) ≤ nI k := nI_ge (b := 4) hk (by decide)
  rw [f_Te_takesNumber, if_neg (nI_pos (by omega)), if_neg hk4, if_neg hm1, if_neg (ixn hk (by decide)), nI_clamp (by omega), sM_n hk]
  by_cases hc : qM k ≤ ν
  · rw [if_pos (nI_le hc (by omega))]
  · rw [if_neg (nI_ge (by omega) (by omega)), sG_n hk, if_neg (nI_ge (by omega) (by omega))]
theorem c_tn_bad {k : Nat} (hk : k < 4) (nu per dr cap : Int32) (inf los : Nat → Int32) : f_Te_takesNumber (nI k) nu (-1) per dr cap inf los = some (0, nu, per, dr, cap, inf, los) := by
  rw [f_Te_takesNumber, if_neg (nI_pos (by omega)), if_neg (show ¬ (4 : Int32) ≤ nI k from nI_ge (b := 4) hk (by decide)), if_pos rfl]
abbrev YI : Type := Int32 × Int32 × Int32 × Int32 × Int32 × Int32 × Int32 × Int32 × Int32 × (Nat → Int32) × (Nat → Int32)
abbrev YO : Type := Int32 × Int32 × Int32 × Int32 × Int32 × Int32 × Int32 × Int32 × Int32 × Int32 × Int32 × Int32 × Int32 × (Nat → Int32) × (Nat → Int32)
/-- the reading ends with a fault at f -/
def CF (M f : Nat) : Sum YI YO → Prop
  | .inr t => t.1 = -10 - nI f
  | .inl t => f = M ∧ ¬ t.2.2.1 = -1
def CL (M : Nat) (ya : Nat → Int32) (z1 : Int32 × Int32 × Int32 × Int32 × Int32 × Int32 × Int32 × Int32 × (Nat → Int32) × (Nat → Int32)) (m e p : Nat) (kd nu it tl per dr cap : Int32) (inf los : Nat → Int32) : Option (Sum YI YO) := f_Te_readInto_L28 (nI M) ya z1 (m + (M - p)) (nI e) (nI p) kd nu it tl per dr cap inf los
section ITE
variable {c ya : Nat → Int32} {M m : Nat} {z1 : Int32 × Int32 × Int32 × Int32 × Int32 × Int32 × Int32 × Int32 × (Nat → Int32) × (Nat → Int32)}
theorem CL_end (hM : M ≤ 120) (hm : 1 ≤ m) (e : Nat) (kd nu it tl per dr cap : Int32) (inf los : Nat → Int32) : CL M ya z1 m e M kd nu it tl per dr cap inf los = some (.inl (nI e, nI M, kd, nu, it, tl, per, dr, cap, inf, los)) := by
  obtain ⟨q, rfl⟩ : ∃ q, m = q + 1 := ⟨m - 1, by omega⟩
  rw [CL, Nat.sub_self, Nat.add_zero, f_Te_readInto_L28_s, if_pos (nI_le (Nat.le_refl _) (by omega))]
theorem CL_skip (hM : M ≤ 120) {e p : Nat} (h : p < e) (he : e ≤ M) (kd nu it tl per dr cap : Int32) (inf los : Nat → Int32) : CL M ya z1 m e p kd nu it tl per dr cap inf los = CL M ya z1 m e (p + 1) kd nu it tl per dr cap inf los := by
  rw [CL, CL, show m + (M - p) = (m + (M - (p + 1))) + 1 by omega, f_Te_readInto_L28_s, if_neg (nI_ge (by omega) (by omega)), if_pos (nI_lt h (by omega)), nI_1]
theorem CL_over (hM : M ≤ 120) {e : Nat} (he : e ≤ M) (kd nu it tl per dr cap : Int32) (inf los : Nat → Int32) : ∀ k p, p + k = e → CL M ya z1 m e p kd nu it tl per dr cap inf los = CL M ya z1 m e e kd nu it tl per dr cap inf los := by
  intro k
  induction k with
  | zero => intro p hp; obtain rfl : p = e := by omega
            rfl
  | succ k ih => intro p hp; rw [CL_skip hM (by omega) he]; exact ih (p + 1) (by omega)
theorem CL_blank (hM : M ≤ 120) (hc : ∀ i, i < M → ya i = c i) {e p : Nat} (h : e ≤ p) (hp : p < M) (h32 : c p = 32) (kd nu it tl per dr cap : Int32) (inf los : Nat → Int32) : CL M ya z1 m e p kd nu it tl per dr cap inf los = CL M ya z1 m e (p + 1) kd nu it tl per dr cap inf los := by
  rw [CL, CL, show m + (M - p) = (m + (M - (p + 1))) + 1 by omega, f_Te_readInto_L28_s, if_neg (nI_ge (by omega) (by omega)), if_neg (nI_nlt h (by omega)), c_let hM hc hp, z_obs, if_pos h32, nI_1]
theorem CL_blanks (hM : M ≤ 120) (hc : ∀ i, i < M → ya i = c i) {e : Nat} (kd nu it tl per dr cap : Int32) (inf los : Nat → Int32) : ∀ k p, p + k = M → e ≤ p → CL M ya z1 m e p kd nu it tl per dr cap inf los = CL M ya z1 m e (sk c k p) kd nu it tl per dr cap inf los := by
  intro k
  induction k with
  | zero => intro p hp he; rfl
  | succ k ih =>
    intro p hp he
    rw [sk]
    by_cases h32 : c p = 32
    · rw [if_pos h32, CL_blank hM hc he (by omega) h32]; exact ih (p + 1) (by omega) (by omega)
    · rw [if_neg h32]
theorem CL_sp (hM : M ≤ 120) (hc : ∀ i, i < M → ya i = c i) {e p : Nat} (hp : p ≤ M) (he : e ≤ p) (kd nu it tl per dr cap : Int32) (inf los : Nat → Int32) : CL M ya z1 m e p kd nu it tl per dr cap inf los = CL M ya z1 m e (sp c M p) kd nu it tl per dr cap inf los := CL_blanks hM hc kd nu it tl per dr cap inf los (M - p) p (by omega) he
theorem CL_no (hM : M ≤ 120) (hc : ∀ i, i < M → ya i = c i) {e s : Nat} (h : e ≤ s) (hs : s < M) (h32 : ¬ c s = 32) {kd nu it tl per dr cap : Int32} {inf los : Nat → Int32} {z : Int32 × Int32 × Int32 × Int32 × Int32 × Int32 × Int32 × Int32 × (Nat → Int32) × (Nat → Int32)} (ht : f_Te_takesToken (nI M) kd nu it tl ya (nI s) (nI (te c M s)) per dr cap inf los = some z) (hz : z.1 = 0) : ∃ y, CL M ya z1 m e s kd nu it tl per dr cap inf los = some y ∧ CF M s y := by
  rw [CL, show m + (M - s) = (m + (M - (s + 1))) + 1 by omega, f_Te_readInto_L28_s, if_neg (nI_ge (by omega) (by omega)), if_neg (nI_nlt h (by omega)), c_let hM hc hs, z_obs, if_neg h32, c_end hM hc hs, z_obs, ht, z_obs, if_pos hz]
  exact ⟨_, rfl, rfl⟩
theorem CL_go (hM : M ≤ 120) (hc : ∀ i, i < M → ya i = c i) {e s : Nat} (h : e ≤ s) (hs : s < M) (h32 : ¬ c s = 32) {kd nu it tl per dr cap kd' nu' it' tl' per' dr' cap' : Int32} {inf los inf' los' : Nat → Int32} (ht : f_Te_takesToken (nI M) kd nu it tl ya (nI s) (nI (te c M s)) per dr cap inf los = some (1, kd', nu', it', tl', per', dr', cap', inf', los')) : CL M ya z1 m e s kd nu it tl per dr cap inf los = CL M ya z1 m (te c M s) (te c M s) kd' nu' it' tl' per' dr' cap' inf' los' := by
  have hr := te_rng c hs
  rw [← CL_over hM hr.2 kd' nu' it' tl' per' dr' cap' inf' los' (te c M s - (s + 1)) (s + 1) (by omega)]
  rw [CL, CL, show m + (M - s) = (m + (M - (s + 1))) + 1 by omega, f_Te_readInto_L28_s, if_neg (nI_ge (by omega) (by omega)), if_neg (nI_nlt h (by omega)), c_let hM hc hs, z_obs, if_neg h32, c_end hM hc hs, z_obs, ht, z_obs, if_neg (show ¬ (1 : Int32) = 0 by decide), nI_1]
theorem tk_num (hM : M ≤ 120) (hc : ∀ i, i < M → ya i = c i) {s : Nat} (hs : s < M) (hd : dig c s = true) {kd nu it tl per dr cap : Int32} {inf los : Nat → Int32} {b nu' per' dr' cap' : Int32} {inf' los' : Nat → Int32} (hb : b = 0 ∨ b = 1) (h : f_Te_takesNumber kd nu (if ts c M s = 1 then nI (tv c M s) else -1) per dr cap inf los = some (b, nu', per', dr', cap', inf', los')) : f_Te_takesToken (nI M) kd nu it tl ya (nI s) (nI (te c M s)) per dr cap inf los = some (b, kd, nu', it, tl, per', dr', cap', inf', los') := by
  rw [f_Te_takesToken, c_fig hM hc hs, if_pos hd, z_obs, if_neg (by decide), c_num hM hc hs hd, z_obs, h, z_obs, if_neg (fun q => q hb)]
theorem tk_end (hM : M ≤ 120) (hc : ∀ i, i < M → ya i = c i) {s : Nat} (hs : s < M) (hd : ¬ dig c s = true) (h59 : c s = 59) {kd nu it tl per dr cap : Int32} {inf los : Nat → Int32} {b kd' it' : Int32} (hb : b = 0 ∨ b = 1) (h : f_Te_takesEnd kd nu it = some (b, kd', it')) : f_Te_takesToken (nI M) kd nu it tl ya (nI s) (nI (te c M s)) per dr cap inf los = some (b, kd', nu, it', tl, per, dr, cap, inf, los) := by
  rw [f_Te_takesToken, c_fig hM hc hs, if_neg hd, z_obs, if_pos rfl, c_let hM hc hs, z_obs, if_pos h59, h, z_obs, if_neg (fun q => q hb)]
theorem tk_kind (hM : M ≤ 120) (hc : ∀ i, i < M → ya i = c i) {s : Nat} (hs : s < M) (hd : ¬ dig c s = true) (h59 : ¬ c s = 59) {kd nu it tl per dr cap : Int32} {inf los : Nat → Int32} {b kd' nu' tl' : Int32} (hb : b = 0 ∨ b = 1) (h : f_Te_takesKind kd nu tl (c s) = some (b, kd', nu', tl')) : f_Te_takesToken (nI M) kd nu it tl ya (nI s) (nI (te c M s)) per dr cap inf los = some (b, kd', nu', it, tl', per, dr, cap, inf, los) := by
  rw [f_Te_takesToken, c_fig hM hc hs, if_neg hd, z_obs, if_pos rfl, c_let hM hc hs, z_obs, if_neg h59, z_obs, h, z_obs, if_neg (fun q => q hb)]
theorem ts_dig {s : Nat} (hd : dig c s = true) : ts c M s = 1 ∧ tv c M s ≤ 999 ∨ ts c M s = 3 := by
  unfold ts
  rw [if_pos hd]
  by_cases hv : 999 < tv c M s
  · rw [if_pos hv]; exact .inr rfl
  · rw [if_neg hv]
    by_cases h : c s = 48 ∧ s + 1 < te c M s
    · rw [if_pos h]; exact .inr rfl
    · rw [if_neg h]; exact .inl ⟨rfl, by omega⟩
theorem ts_59 {s : Nat} (hd : ¬ dig c s = true) (h : c s = 59) : ts c M s = 59 := by
  unfold ts; rw [if_neg hd, if_pos (by simp [h]), h]
theorem ts_n59 {s : Nat} (hd : ¬ dig c s = true) (h : ¬ c s = 59) : ¬ ts c M s = 59 ∧ ¬ ts c M s = 1 := by
  unfold ts
  rw [if_neg hd]
  by_cases h2 : c s = 105 ∨ c s = 100 ∨ c s = 99 ∨ c s = 101 ∨ c s = 59
  · rw [if_pos h2]
    refine ⟨h, fun q => ?_⟩
    rw [q] at h2; exact absurd h2 (by decide)
  · rw [if_neg h2]; decide
/-- the loop over numbers ends here: no number, or enough of them -/
theorem m_stop {k ν n : Nat} (hk : k < 4) (hν : ν ≤ 12) (hn : 1 ≤ n) {a t s v : Int32} {r : Nat → Int32} (h : qM k ≤ ν ∨ ¬ s = 1) : f_Mo_readNumbers_L7 (nI M) c (nI (qT k)) (sM k) (sG k) n (nI ν) a t s v r = some (.inl (nI ν, a, t, s, v, r)) := by
  obtain ⟨q1, q2, q3, q4, q5, q6⟩ := q_rng hk
  obtain ⟨n, rfl⟩ : ∃ q, n = q + 1 := ⟨n - 1, by omega⟩
  rw [f_Mo_readNumbers_L7_s, sM_n hk]
  by_cases hc : qM k ≤ ν
  · rw [if_pos (nI_le hc (by omega))]
  · rw [if_neg (nI_ge (by omega) (by omega)), if_neg (h.resolve_left hc)]
theorem item_run (hM : M ≤ 120) (hc : ∀ i, i < M → ya i = c i) (hm : 1 ≤ m) {k : Nat} (hk : k < 4) : ∀ K p, M - p ≤ K → p ≤ M → ∀ (e n ν : Nat) (it tl per dr cap : Int32) (inf los r : Nat → Int32) (x : Int32), e ≤ p → ν ≤ qM k → 14 ≤ n + ν → IR k ν per dr cap inf los r → ∃ a t s v, f_Mo_scan (nI M) (nI p) x c = some (a, t, s, v) ∧ ((∃ (ν' p' : Nat) (t' v' per' dr' cap' : Int32) (inf' los' r' : Nat → Int32), f_Mo_readNumbers_L7 (nI M) c (nI (qT k)) (sM k) (sG k) n (nI ν) a t s v r = some (.inl (nI ν', nI p', t', 59, v', r')) ∧ qF k ≤ ν' ∧ ν' ≤ qM k ∧ p < p' ∧ p' ≤ M ∧ IR k ν' per' dr' cap' inf' los' r' ∧ CL M ya z1 m e p (nI k) (nI ν) it tl per dr cap inf los = CL M ya z1 m p' p' (-1) (nI ν') (it + 1) tl per' dr' cap' inf' los') ∨ (∃ (f : Nat) (y : Sum YI YO), f ≤ M ∧ CL M ya z1 m e p (nI k) (nI ν) it tl per dr cap inf los = some y ∧ CF M f y ∧ ((∃ a' s' v' r', f_Mo_readNumbers_L7 (nI M) c (nI (qT k)) (sM k) (sG k) n (nI ν) a t s v r = some (.inr (0, a', nI f, s', v', r'))) ∨ (∃ (ν' : Nat) (a' s' v' : Int32) (r' : Nat → Int32), f_Mo_readNumbers_L7 (nI M) c (nI (qT k)) (sM k) (sG k) n (nI ν) a t s v r = some (.inl (nI ν', a', nI f, s', v', r')) ∧ ν' ≤ 12 ∧ (ν' < qF k ∨ ¬ s' = 59))))) := by
  obtain ⟨q1, q2, q3, q4, q5, q6⟩ := q_rng hk
  have hkm : ¬ nI k = (-1 : Int32) := nI_nm (by omega) _ (by decide)
  intro K
  induction K with
  | zero =>
    intro p hK hp e n ν it tl per dr cap inf los r x he hν hn hI
    obtain rfl : p = M := by omega
    have es : sp c p p = p := by have := sp_rng c (Nat.le_refl p); omega
    refine ⟨_, _, _, _, m_scan_end hM (Nat.le_refl _) x es, .inr ⟨p, _, Nat.le_refl _, CL_end hM hm .., ⟨rfl, hkm⟩, .inr ⟨ν, _, _, _, _, m_stop hk (by omega) (by omega) (.inr (by decide)), by omega, .inr (by decide)⟩⟩⟩
  | succ K ih =>
    intro p hK hp e n ν it tl per dr cap inf los r x he hν hn hI
    obtain ⟨r1, r2⟩ := sp_rng c hp
    by_cases hsM : sp c M p = M
    · refine ⟨_, _, _, _, m_scan_end hM hp x hsM, .inr ⟨M, .inl (nI e, nI M, nI k, nI ν, it, tl, per, dr, cap, inf, los), Nat.le_refl _, ?_, ?_, .inr ⟨ν, _, _, _, _, m_stop hk (by omega) (by omega) (.inr (by decide)), by omega, .inr (by decide)⟩⟩⟩
      · rw [CL_sp hM hc hp he, hsM, CL_end hM hm]
      · exact ⟨rfl, hkm⟩
    · generalize hs' : sp c M p = s at r1 r2 hsM
      have hs : s < M := by omega
      have h32 : ¬ c s = 32 := by have := sp_no c hp (by omega); rw [hs'] at this; exact this
      have hr := te_rng c hs
      refine ⟨_, _, _, _, m_scan_tok hM hp x hs' hs, ?_⟩
      rw [CL_sp hM hc hp he, hs']
      by_cases hd : dig c s = true
      · rcases ts_dig (M := M) hd with ⟨h1, hv⟩ | h3
        · by_cases hfull : qM k ≤ ν
          · -- one too many
            obtain ⟨y, y1, y2⟩ := CL_no (m := m) (z1 := z1) hM hc (show e ≤ s by omega) hs h32 (tk_num hM hc hs hd (kd := nI k) (nu := nI ν) (it := it) (tl := tl) (.inl rfl) (by rw [if_pos h1]; exact c_tn_no hk (by omega) hv (.inl hfull) per dr cap inf los)) rfl
            exact .inr ⟨s, y, by omega, y1, y2, .inr ⟨ν, _, _, _, _, m_stop hk (by omega) (by omega) (.inl hfull), by omega, .inr (by rw [h1]; decide)⟩⟩
          · obtain ⟨n, rfl⟩ : ∃ q, n = q + 1 := ⟨n - 1, by omega⟩
            by_cases hbig : qG k < tv c M s
            · obtain ⟨y, y1, y2⟩ := CL_no (m := m) (z1 := z1) hM hc (show e ≤ s by omega) hs h32 (tk_num hM hc hs hd (kd := nI k) (nu := nI ν) (it := it) (tl := tl) (.inl rfl) (by rw [if_pos h1]; exact c_tn_no hk (by omega) hv (.inr hbig) per dr cap inf los)) rfl
              refine .inr ⟨s, y, by omega, y1, y2, .inl ⟨nI (te c M s), ts c M s, nI (tv c M s), r, ?_⟩⟩
              rw [f_Mo_readNumbers_L7_s, sM_n hk, if_neg (nI_ge (by omega) (by omega)), if_pos h1, f_Mo_isNumber, if_pos h1, if_pos hd, sG_n hk, if_pos (nI_lt hbig (by omega)), z_obs, if_pos rfl]
            · obtain ⟨per', dr', cap', inf', los', t1, t2⟩ := c_tn_ok hk (show ν < qM k by omega) (show tv c M s ≤ qG k by omega) hI
              have go := CL_go (m := m) (z1 := z1) hM hc (show e ≤ s by omega) hs h32 (tk_num hM hc hs hd (kd := nI k) (nu := nI ν) (it := it) (tl := tl) (.inr rfl) (by rw [if_pos h1]; exact t1))
              obtain ⟨a, t, sr, v, i1, i2⟩ := ih (te c M s) (by omega) hr.2 (te c M s) n (ν + 1) it tl per' dr' cap' inf' los' (upd r (qT k + ν) (nI (tv c M s))) (nI (tv c M s)) (Nat.le_refl _) (by omega) (by omega) t2
              have st : f_Mo_readNumbers_L7 (nI M) c (nI (qT k)) (sM k) (sG k) (n + 1) (nI ν) (nI (te c M s)) (nI s) (ts c M s) (if dig c s = true then nI (tv c M s) else x) r = f_Mo_readNumbers_L7 (nI M) c (nI (qT k)) (sM k) (sG k) n (nI (ν + 1)) a t sr v (upd r (qT k + ν) (nI (tv c M s))) := by
                rw [f_Mo_readNumbers_L7_s, sM_n hk, if_neg (nI_ge (by omega) (by omega)), if_pos h1, f_Mo_isNumber, if_pos h1, if_pos hd, sG_n hk, if_neg (nI_nlt (by omega) (by omega)), z_obs, if_neg (by decide), nI_add, if_neg (ixn (by omega) (by decide)), i1, z_obs, nI_1, nI_clamp (by omega)]
              rw [st, go]
              rcases i2 with ⟨ν', p', t', v', a1, a2, a3, a4, a5, a6, b1, b2, b3, b4, b5, b6, b7⟩ | hF
              · exact .inl ⟨ν', p', t', v', a1, a2, a3, a4, a5, a6, b1, b2, b3, by omega, b5, b6, b7⟩
              · exact .inr hF
        · obtain ⟨y, y1, y2⟩ := CL_no (m := m) (z1 := z1) hM hc (show e ≤ s by omega) hs h32 (tk_num hM hc hs hd (kd := nI k) (nu := nI ν) (it := it) (tl := tl) (.inl rfl) (by rw [if_neg (by rw [h3]; decide)]; exact c_tn_bad hk (nI ν) per dr cap inf los)) rfl
          exact .inr ⟨s, y, by omega, y1, y2, .inr ⟨ν, _, _, _, _, m_stop hk (by omega) (by omega) (.inr (by rw [h3]; decide)), by omega, .inr (by rw [h3]; decide)⟩⟩
      · by_cases h59 : c s = 59
        · have e59 := ts_59 (M := M) hd h59
          have ete : te c M s = s + 1 := by unfold te; rw [if_neg hd]
          by_cases hfew : qF k ≤ ν
          · have t1 : f_Te_takesEnd (nI k) (nI ν) it = some (1, -1, it + 1) := by
              rw [f_Te_takesEnd, if_neg (nI_pos (by omega)), if_neg (show ¬ (4 : Int32) ≤ nI k from nI_ge (b := 4) hk (by decide)), if_neg (ixn hk (by decide)), nI_clamp (by omega), sF_n hk, if_pos (nI_le hfew (by omega))]
            refine .inl ⟨ν, te c M s, nI s, if dig c s = true then nI (tv c M s) else x, per, dr, cap, inf, los, r, ?_, hfew, hν, by omega, hr.2, hI, CL_go hM hc (by omega) hs h32 (tk_end hM hc hs hd h59 (.inr rfl) t1)⟩
            rw [m_stop hk (by omega) (by omega) (.inr (by rw [e59]; decide)), e59]
          · have t1 : f_Te_takesEnd (nI k) (nI ν) it = some (0, nI k, it) := by
              rw [f_Te_takesEnd, if_neg (nI_pos (by omega)), if_neg (show ¬ (4 : Int32) ≤ nI k from nI_ge (b := 4) hk (by decide)), if_neg (ixn hk (by decide)), nI_clamp (by omega), sF_n hk, if_neg (nI_ge (by omega) (by omega))]
            obtain ⟨y, y1, y2⟩ := CL_no (m := m) (z1 := z1) hM hc (show e ≤ s by omega) hs h32 (tk_end hM hc hs hd h59 (tl := tl) (per := per) (dr := dr) (cap := cap) (inf := inf) (los := los) (.inl rfl) t1) rfl
            exact .inr ⟨s, y, by omega, y1, y2, .inr ⟨ν, _, _, _, _, m_stop hk (by omega) (by omega) (.inr (by rw [e59]; decide)), by omega, .inl (by omega)⟩⟩
        · obtain ⟨n1, n2⟩ := ts_n59 (M := M) hd h59
          have t1 : f_Te_takesKind (nI k) (nI ν) tl (c s) = some (0, nI k, nI ν, tl) := by rw [f_Te_takesKind, if_neg hkm]
          obtain ⟨y, y1, y2⟩ := CL_no (m := m) (z1 := z1) hM hc (show e ≤ s by omega) hs h32 (tk_kind hM hc hs hd h59 (it := it) (per := per) (dr := dr) (cap := cap) (inf := inf) (los := los) (.inl rfl) t1) rfl
          exact .inr ⟨s, y, by omega, y1, y2, .inr ⟨ν, _, _, _, _, m_stop hk (by omega) (by omega) (.inr n2), by omega, .inr n1⟩⟩
end ITE
