/-! ===== WHICH DRAFT ===== -/
/-- VOLUME ahead of period t of a full run by draft q -/
def vb (fl lo : Nat → Nat) (N K q : Nat) : Nat → Nat
  | 0 => K
  | t + 1 => stp fl lo N q K t (vb fl lo N K q t)
theorem vb_le (fl lo : Nat → Nat) (N K q : Nat) : ∀ t, vb fl lo N K q t ≤ K
  | 0 => Nat.le_refl _
  | _ + 1 => stp_le _ _ _ _ _ _ _
def cnb (p : Nat → Bool) : Nat → Nat
  | 0 => 0
  | n + 1 => cnb p n + (if p n = true then 1 else 0)
theorem cnb_le (p : Nat → Bool) : ∀ n, cnb p n ≤ n
  | 0 => Nat.le_refl _
  | n + 1 => by have := cnb_le p n; rw [cnb]; split <;> omega
theorem cnb_kth (p : Nat → Bool) (k : Nat) : ∀ n, k < cnb p n → ∃ i, i < n ∧ p i = true ∧ cnb p i = k
  | 0, h => absurd h (by rw [cnb]; omega)
  | n + 1, h => by
    by_cases hk : k < cnb p n
    · obtain ⟨i, a, b⟩ := cnb_kth p k n hk
      exact ⟨i, by omega, b⟩
    · rw [cnb] at h
      by_cases hp : p n = true
      · rw [if_pos hp] at h; exact ⟨n, by omega, hp, by omega⟩
      · rw [if_neg hp] at h; omega
theorem cnb_0 (p : Nat → Bool) : ∀ n, cnb p n = 0 → ∀ i, i < n → p i = false
  | 0, _, i, hi => absurd hi (by omega)
  | n + 1, h, i, hi => by
    rw [cnb] at h
    by_cases hp : p n = true
    · rw [if_pos hp] at h; omega
    · rw [if_neg hp] at h
      by_cases e : i = n
      · subst e; exact Bool.eq_false_iff.mpr hp
      · exact cnb_0 p n (by omega) i (by omega)
/-- all that was seen is so by draft q -/
def okq (fl lo : Nat → Nat) (N K n : Nat) (st : Nat → Nat) (sv : Nat → Int32) (q : Nat) : Bool := decide (∀ i, i < n → sv i = nI (vb fl lo N K q (st i + 1)))
/-- what was seen, on both sides -/
def SW (n : Nat) (st : Nat → Nat) (sv yt yv vt vv : Nat → Int32) : Prop := n ≤ 6 ∧ ∀ i, i < n → st i ≤ 39 ∧ yt i = nI (st i) ∧ vt i = nI (st i) ∧ yv i = sv i ∧ vv i = sv i
theorem RSee.out {xn un : Int32} {yt yv vt vv : Nat → Int32} (h : RSee xn un yt yv vt vv) : ∃ n, xn = nI n ∧ un = nI n ∧ SW n (fun i => (yt i).toNatClampNeg) yv yt yv vt vv := by
  obtain ⟨n, hn, h1, h2, h3⟩ := h
  refine ⟨n, h1, h2, hn, fun i hi => ?_⟩
  obtain ⟨⟨t, ht, e1, e2⟩, e3⟩ := h3 i hi
  have e : (yt i).toNatClampNeg = t := by rw [e1, nI_clamp (by omega)]
  show (yt i).toNatClampNeg ≤ 39 ∧ yt i = nI (yt i).toNatClampNeg ∧ vt i = nI (yt i).toNatClampNeg ∧ yv i = yv i ∧ vv i = yv i
  rw [e]
  exact ⟨ht, e1, e2, rfl, e3.symm⟩
section FIT
variable {per : Int32} {inf los r sv yt yv vt vv : Nat → Int32} {N K n : Nat} {fl lo st : Nat → Nat}
theorem c_contra_L (hs : SW n st sv yt yv vt vv) {t : Nat} (ht : t < 100000) (x : Int32) : ∀ k m i, k < m → i + k = n → ∃ z, f_Si_contradicts_L2 (nI n) yt yv (nI t) x m (nI i) = some z ∧ ((∀ j, i ≤ j → j < n → st j = t → sv j = x) → ∃ a, z = .inl a) ∧ ((∃ j, i ≤ j ∧ j < n ∧ st j = t ∧ sv j ≠ x) → z = .inr 1) := by
  have hn := hs.1
  intro k
  induction k with
  | zero =>
    intro m i hm hi
    obtain ⟨m, rfl⟩ : ∃ q, m = q + 1 := ⟨m - 1, by omega⟩
    rw [f_Si_contradicts_L2_s, if_pos (nI_le (by omega) (by omega))]
    exact ⟨_, rfl, fun _ => ⟨_, rfl⟩, fun ⟨j, a, b, _⟩ => absurd a (by omega)⟩
  | succ k ih =>
    intro m i hm hi
    obtain ⟨m, rfl⟩ : ∃ q, m = q + 1 := ⟨m - 1, by omega⟩
    obtain ⟨s1, s2, s3, s4, s5⟩ := hs.2 i (by omega)
    rw [f_Si_contradicts_L2_s, if_neg (nI_ge (by omega) (by omega)), if_neg (ixn (by omega) (by decide)), nI_clamp (by omega), s2, s4, nI_1]
    obtain ⟨z, e1, e2, e3⟩ := ih m (i + 1) (by omega) (by omega)
    by_cases hc : st i = t
    · rw [if_pos (show nI (st i) = nI t by rw [hc])]
      by_cases hd : sv i = x
      · rw [if_pos hd]
        refine ⟨z, e1, fun h => e2 (fun j a b c => h j (by omega) b c), fun ⟨j, a, b, c, d⟩ => e3 ⟨j, ?_, b, c, d⟩⟩
        by_cases hj : j = i
        · subst hj; exact absurd hd d
        · omega
      · rw [if_neg hd]
        exact ⟨_, rfl, fun h => absurd (h i (Nat.le_refl _) (by omega) hc) hd, fun _ => rfl⟩
    · rw [if_neg (fun q => hc ((nI_eq (by omega) (by omega)).mp q))]
      refine ⟨z, e1, fun h => e2 (fun j a b c => h j (by omega) b c), fun ⟨j, a, b, c, d⟩ => e3 ⟨j, ?_, b, c, d⟩⟩
      by_cases hj : j = i
      · subst hj; exact absurd c hc
      · omega
theorem c_contra0 (hs : SW n st sv yt yv vt vv) {t : Nat} (ht : t < 100000) (x : Int32) (h : ∀ j, j < n → st j = t → sv j = x) : f_Si_contradicts (nI n) yt yv (nI t) x = some 0 := by
  obtain ⟨z, e1, e2, -⟩ := c_contra_L hs ht x n FU 0 (by have := hs.1; unfold FU; omega) (by omega)
  obtain ⟨a, rfl⟩ := e2 (fun j _ b c => h j b c)
  have e1' : f_Si_contradicts_L2 (nI n) yt yv (nI t) x FU (0 : Int32) = _ := e1
  rw [f_Si_contradicts, e1']; rfl
theorem c_contra1 (hs : SW n st sv yt yv vt vv) {t : Nat} (ht : t < 100000) (x : Int32) (h : ∃ j, j < n ∧ st j = t ∧ sv j ≠ x) : f_Si_contradicts (nI n) yt yv (nI t) x = some 1 := by
  obtain ⟨z, e1, -, e2⟩ := c_contra_L hs ht x n FU 0 (by have := hs.1; unfold FU; omega) (by omega)
  obtain ⟨j, a⟩ := h
  obtain rfl := e2 ⟨j, Nat.zero_le _, a⟩
  have e1' : f_Si_contradicts_L2 (nI n) yt yv (nI t) x FU (0 : Int32) = _ := e1
  rw [f_Si_contradicts, e1']; rfl
theorem c_fit_L (h : CW per inf los N fl lo) (hs : SW n st sv yt yv vt vv) (hK : K ≤ 999) {q P : Nat} (hq : q ≤ 99) (hP : P ≤ 40) (hPs : ∀ i, i < n → st i + 1 ≤ P) : ∀ k m t, k < m → t + k = P → (∀ i, i < n → st i < t → sv i = nI (vb fl lo N K q (st i + 1))) → ∃ z, f_Si_isFitting_L9 (nI n) yt yv per (nI K) inf los (nI q) (nI P) m (nI (vb fl lo N K q t)) (nI t) = some z ∧ (okq fl lo N K n st sv q = true → ∃ a, z = .inl a) ∧ (okq fl lo N K n st sv q = false → z = .inr 0) := by
  intro k
  induction k with
  | zero =>
    intro m t hm ht hg
    obtain ⟨m, rfl⟩ : ∃ q, m = q + 1 := ⟨m - 1, by omega⟩
    rw [f_Si_isFitting_L9_s, if_pos (nI_le (by omega) (by omega))]
    exact ⟨_, rfl, fun _ => ⟨_, rfl⟩, fun hf => absurd (fun i hi => hg i hi (by have := hPs i hi; omega)) (of_decide_eq_false hf)⟩
  | succ k ih =>
    intro m t hm ht hg
    obtain ⟨m, rfl⟩ : ∃ q, m = q + 1 := ⟨m - 1, by omega⟩
    have hv := vb_le fl lo N K q t
    have hr := h.rng t (v := vb fl lo N K q t) (d := q) (by omega) hq
    have e : nI (hl ((vb fl lo N K q t : Int) + fl (t % N) - lo (vb fl lo N K q t / 100) - q) K) = nI (vb fl lo N K q (t + 1)) := rfl
    rw [f_Si_isFitting_L9_s, if_neg (nI_ge (by omega) (by omega)), c_level h (by omega) (by omega), z_obs, c_held hr.1 hr.2 hK, z_obs, e, nI_1]
    by_cases hc : ∀ j, j < n → st j = t → sv j = nI (vb fl lo N K q (t + 1))
    · rw [c_contra0 hs (by omega) _ hc, z_obs, if_pos rfl]
      exact ih m (t + 1) (by omega) (by omega) (fun i hi hlt => by
        by_cases hx : st i = t
        · rw [hx]; exact hc i hi hx
        · exact hg i hi (by omega))
    · have hc' : ∃ j, j < n ∧ st j = t ∧ sv j ≠ nI (vb fl lo N K q (t + 1)) := by
        refine Classical.byContradiction fun hx => hc (fun j a b => Classical.byContradiction fun hy => hx ⟨j, a, b, hy⟩)
      rw [c_contra1 hs (by omega) _ hc', z_obs, if_neg (by decide)]
      refine ⟨_, rfl, fun ho => absurd (fun j a b => ?_) hc, fun _ => rfl⟩
      have := of_decide_eq_true ho j a
      rw [b] at this; exact this
theorem c_per_L (hs : SW n st sv yt yv vt vv) : ∀ k m i p, k < m → i + k = n → p ≤ 40 → (∀ j, j < i → st j + 1 ≤ p) → ∃ P a, f_Si_periodsToCheck_L4 (nI n) yt m (nI p) (nI i) = some (nI P, a) ∧ P ≤ 40 ∧ ∀ j, j < n → st j + 1 ≤ P := by
  have hn := hs.1
  intro k
  induction k with
  | zero =>
    intro m i p hm hi hp hg
    obtain ⟨m, rfl⟩ : ∃ q, m = q + 1 := ⟨m - 1, by omega⟩
    refine ⟨p, nI i, ?_, hp, fun j hj => hg j (by omega)⟩
    rw [f_Si_periodsToCheck_L4_s, if_pos (nI_le (by omega) (by omega))]
  | succ k ih =>
    intro m i p hm hi hp hg
    obtain ⟨m, rfl⟩ : ∃ q, m = q + 1 := ⟨m - 1, by omega⟩
    obtain ⟨s1, s2, -⟩ := hs.2 i (by omega)
    rw [f_Si_periodsToCheck_L4_s, if_neg (nI_ge (by omega) (by omega)), if_neg (ixn (by omega) (by decide)), nI_clamp (by omega), s2, nI_1, nI_1]
    by_cases hc : p < st i + 1
    · rw [if_pos (nI_lt hc (by omega))]
      exact ih m (i + 1) (st i + 1) (by omega) (by omega) (by omega) (fun j hj => by
        by_cases e : j = i
        · subst e; exact Nat.le_refl _
        · have := hg j (by omega); omega)
    · rw [if_neg (nI_nlt (by omega) (by omega))]
      exact ih m (i + 1) p (by omega) (by omega) (by omega) (fun j hj => by
        by_cases e : j = i
        · subst e; omega
        · exact hg j (by omega))
theorem c_fit (h : CW per inf los N fl lo) (hs : SW n st sv yt yv vt vv) (hK : K ≤ 999) {q P : Nat} (hq : q ≤ 99) (hP : P ≤ 40) (hPs : ∀ i, i < n → st i + 1 ≤ P) : f_Si_isFitting (nI n) yt yv per (nI K) inf los (nI q) (nI P) = some (if okq fl lo N K n st sv q = true then 1 else 0) := by
  obtain ⟨z, e1, e2, e3⟩ := c_fit_L h hs hK hq hP hPs P FU 0 (by unfold FU; omega) (by omega) (fun i hi hx => absurd hx (by omega))
  have e1' : f_Si_isFitting_L9 (nI n) yt yv per (nI K) inf los (nI q) (nI P) FU (nI K) (0 : Int32) = _ := e1
  rw [f_Si_isFitting, e1']
  by_cases ho : okq fl lo N K n st sv q = true
  · obtain ⟨a, rfl⟩ := e2 ho
    rw [if_pos ho]; rfl
  · obtain rfl := e3 (Bool.eq_false_iff.mpr ho)
    rw [if_neg ho]; rfl
theorem c_find_L (h : CW per inf los N fl lo) (hs : SW n st sv yt yv vt vv) (hK : K ≤ 999) {P : Nat} (hP : P ≤ 40) (hPs : ∀ i, i < n → st i + 1 ≤ P) : ∀ k m q (d : Nat → Int32), k < m → q + k = 100 → (∀ p, p < q → okq fl lo N K n st sv p = true → d (cnb (okq fl lo N K n st sv) p) = nI p) → ∃ a d', f_Si_findDrafts_L12 (nI n) yt yv per (nI K) inf los (nI P) m (nI q) (nI (cnb (okq fl lo N K n st sv) q)) d = some (a, nI (cnb (okq fl lo N K n st sv) 100), d') ∧ ∀ p, p < 100 → okq fl lo N K n st sv p = true → d' (cnb (okq fl lo N K n st sv) p) = nI p := by
  intro k
  induction k with
  | zero =>
    intro m q d hm hq hd
    obtain ⟨m, rfl⟩ : ∃ q, m = q + 1 := ⟨m - 1, by omega⟩
    obtain rfl : q = 100 := by omega
    refine ⟨nI 100, d, ?_, hd⟩
    rw [f_Si_findDrafts_L12_s, if_pos (by decide)]
  | succ k ih =>
    intro m q d hm hq hd
    obtain ⟨m, rfl⟩ : ∃ q, m = q + 1 := ⟨m - 1, by omega⟩
    have hcl := cnb_le (okq fl lo N K n st sv) q
    rw [f_Si_findDrafts_L12_s, if_neg (show ¬ (99 : Int32) < nI q from nI_nlt (a := 99) (by omega) (by decide)), c_fit h hs hK (by omega) hP hPs, z_obs, nI_1]
    by_cases ho : okq fl lo N K n st sv q = true
    · rw [if_pos ho, if_neg (by decide), if_neg (ixn (by omega) (by decide)), nI_clamp (by omega), nI_1]
      have ec : cnb (okq fl lo N K n st sv) (q + 1) = cnb (okq fl lo N K n st sv) q + 1 := by rw [cnb, if_pos ho]
      rw [← ec]
      exact ih m (q + 1) _ (by omega) (by omega) (fun p hp hpo => by
        by_cases e : p = q
        · subst e; rw [upd_at]
        · have hlt : cnb (okq fl lo N K n st sv) p < cnb (okq fl lo N K n st sv) q := by
            have mono : ∀ i j, cnb (okq fl lo N K n st sv) i ≤ cnb (okq fl lo N K n st sv) (i + j) := by
              intro i j
              induction j with
              | zero => exact Nat.le_refl _
              | succ j ihj => exact Nat.le_trans ihj (by rw [← Nat.add_assoc, cnb]; omega)
            have h1 := mono (p + 1) (q - (p + 1))
            rw [show p + 1 + (q - (p + 1)) = q by omega, cnb, if_pos hpo] at h1
            omega
          rw [upd_ne (by omega)]; exact hd p (by omega) hpo)
    · rw [if_neg ho, if_pos rfl]
      have ec : cnb (okq fl lo N K n st sv) (q + 1) = cnb (okq fl lo N K n st sv) q := by rw [cnb, if_neg ho]; rfl
      rw [← ec]
      exact ih m (q + 1) d (by omega) (by omega) (fun p hp hpo => by
        by_cases e : p = q
        · subst e; exact absurd hpo ho
        · exact hd p (by omega) hpo)
theorem c_find (h : CW per inf los N fl lo) (hs : SW n st sv yt yv vt vv) (hK : K ≤ 999) (d : Nat → Int32) : ∃ d', f_Si_findDrafts (nI n) yt yv d per (nI K) inf los = some (nI (cnb (okq fl lo N K n st sv) 100), nI (cnb (okq fl lo N K n st sv) 100), d') ∧ ∀ p, p < 100 → okq fl lo N K n st sv p = true → d' (cnb (okq fl lo N K n st sv) p) = nI p := by
  obtain ⟨P, a, e1, hP, hPs⟩ := c_per_L hs n FU 0 0 (by have := hs.1; unfold FU; omega) (by omega) (by omega) (fun j hj => absurd hj (by omega))
  have e1' : f_Si_periodsToCheck_L4 (nI n) yt FU (0 : Int32) (0 : Int32) = _ := e1
  obtain ⟨b, d', e2, e3⟩ := c_find_L h hs hK hP hPs 100 FU 0 d (by decide) (by decide) (fun p hp => absurd hp (by omega))
  have e2' : f_Si_findDrafts_L12 (nI n) yt yv per (nI K) inf los (nI P) FU (0 : Int32) (0 : Int32) d = _ := e2
  refine ⟨d', ?_, e3⟩
  rw [f_Si_findDrafts, f_Si_periodsToCheck, e1', z_obs, z_obs, e2']; rfl
theorem m_lay_v (h : MW r N fl lo) (hK : K ≤ 999) (eK : r 14 = nI K) {q : Nat} (hq : q ≤ 99) : ∀ k m t (g : Nat → Int32), k < m → t + k = 40 → (∀ s, s < t → g (40 * q + s) = nI (vb fl lo N K q (s + 1))) → ∃ a b g', f_Mo_layDrafts_L21 r (nI q) m (nI (vb fl lo N K q t)) (nI t) g = some (a, b, g') ∧ (∀ s, s < 40 → g' (40 * q + s) = nI (vb fl lo N K q (s + 1))) ∧ ∀ j, j < 40 * q → g' j = g j := by
  intro k
  induction k with
  | zero =>
    intro m t g hm ht hg
    obtain ⟨m, rfl⟩ : ∃ q, m = q + 1 := ⟨m - 1, by omega⟩
    refine ⟨nI (vb fl lo N K q t), nI t, g, ?_, fun s hs => hg s (by omega), fun _ _ => rfl⟩
    rw [f_Mo_layDrafts_L21_s, if_pos (show (40 : Int32) ≤ nI t from nI_le (a := 40) (by omega) (by omega))]
  | succ k ih =>
    intro m t g hm ht hg
    obtain ⟨m, rfl⟩ : ∃ q, m = q + 1 := ⟨m - 1, by omega⟩
    have hv := vb_le fl lo N K q t
    have hr := h.rng t (v := vb fl lo N K q t) (d := q) (by omega) hq
    have e : nI (hl ((vb fl lo N K q t : Int) + fl (t % N) - lo (vb fl lo N K q t / 100) - q) K) = nI (vb fl lo N K q (t + 1)) := rfl
    have ei : (40 : Int32) * nI q + nI t = nI (40 * q + t) := by rw [show (40 : Int32) * nI q = nI (40 * q) from z_mul 40 q, nI_add]
    rw [f_Mo_layDrafts_L21_s, if_neg (show ¬ (40 : Int32) ≤ nI t from nI_ge (b := 40) (by omega) (by decide)), m_flow h (by omega), z_obs, m_raw h (by omega), z_obs, if_neg (by decide), show (14 : Int32).toNatClampNeg = 14 from rfl, eK, m_kept hr.1 hr.2 hK, z_obs, ei, if_neg (ixn (by omega) (by decide)), nI_clamp (by omega), e, nI_1]
    obtain ⟨a, b, g', e1, e2, e3⟩ := ih m (t + 1) (upd g (40 * q + t) (nI (vb fl lo N K q (t + 1)))) (by omega) (by omega) (fun s hs => by
      by_cases hx : s = t
      · subst hx; rw [upd_at]
      · rw [upd_ne (by omega)]; exact hg s (by omega))
    refine ⟨a, b, g', e1, e2, fun j hj => ?_⟩
    rw [e3 j hj, upd_ne (by omega)]
theorem nb0 : vp_nar .boolean (0 : Int32) = 0 := by decide
theorem nb1 : vp_nar .boolean (1 : Int32) = 1 := by decide
theorem m_lay_f (hs : SW n st sv yt yv vt vv) {q : Nat} (hq : q ≤ 99) (z10 : Int32 × Int32 × (Nat → Int32)) (hz : ∀ s, s < 40 → z10.2.2 (40 * q + s) = nI (vb fl lo N K q (s + 1))) : ∀ k m i (f : Nat → Int32), k < m → i + k = n → ((f q = 1 ∧ ∀ j, j < i → sv j = nI (vb fl lo N K q (st j + 1))) ∨ (f q = 0 ∧ okq fl lo N K n st sv q = false)) → ∃ a f', f_Mo_layDrafts_L80 (nI n) vt vv (nI q) z10 m (nI i) f = some (a, f') ∧ f' q = (if okq fl lo N K n st sv q = true then 1 else 0) ∧ ∀ j, j ≠ q → f' j = f j := by
  have hn := hs.1
  intro k
  induction k with
  | zero =>
    intro m i f hm hi hf
    obtain ⟨m, rfl⟩ : ∃ q, m = q + 1 := ⟨m - 1, by omega⟩
    obtain rfl : i = n := by omega
    refine ⟨nI i, f, ?_, ?_, fun _ _ => rfl⟩
    · rw [f_Mo_layDrafts_L80_s, if_pos (nI_le (by omega) (by omega))]
    · rcases hf with ⟨a, b⟩ | ⟨a, b⟩
      · rw [if_pos (show okq fl lo N K i st sv q = true from decide_eq_true b), a]
      · rw [if_neg (Bool.eq_false_iff.mp b), a]
  | succ k ih =>
    intro m i f hm hi hf
    obtain ⟨m, rfl⟩ : ∃ q, m = q + 1 := ⟨m - 1, by omega⟩
    obtain ⟨s1, s2, s3, s4, s5⟩ := hs.2 i (by omega)
    have ei : (40 : Int32) * nI q + nI (st i) = nI (40 * q + st i) := by rw [show (40 : Int32) * nI q = nI (40 * q) from z_mul 40 q, nI_add]
    rw [f_Mo_layDrafts_L80_s, if_neg (nI_ge (by omega) (by omega)), if_neg (ixn (by omega) (by decide)), nI_clamp (show q < 2 ^ 31 by omega), if_neg (ixn (show i < 6 by omega) (by decide)), nI_clamp (show i < 2 ^ 31 by omega), s3, ei, if_neg (ixn (show 40 * q + st i < 4000 by omega) (by decide)), nI_clamp (show 40 * q + st i < 2 ^ 31 by omega), hz _ (by omega), s5, nb0, nb1, nI_1]
    have fin : ∀ x : Int32, ((x = 1 ∧ ∀ j, j < i + 1 → sv j = nI (vb fl lo N K q (st j + 1))) ∨ (x = 0 ∧ okq fl lo N K n st sv q = false)) → ∃ a f', f_Mo_layDrafts_L80 (nI n) vt vv (nI q) z10 m (nI (i + 1)) (upd f q x) = some (a, f') ∧ f' q = (if okq fl lo N K n st sv q = true then 1 else 0) ∧ ∀ j, j ≠ q → f' j = f j := by
      intro x hx
      obtain ⟨a, f', e1, e2, e3⟩ := ih m (i + 1) (upd f q x) (by omega) (by omega) (by rw [upd_at]; exact hx)
      exact ⟨a, f', e1, e2, fun j hj => by rw [e3 j hj, upd_ne hj]⟩
    rcases hf with ⟨a, b⟩ | ⟨a, b⟩
    · rw [if_neg (by rw [a]; decide)]
      by_cases hc : nI (vb fl lo N K q (st i + 1)) = sv i
      · rw [if_pos hc]
        exact fin 1 (.inl ⟨rfl, fun j hj => by
          by_cases e : j = i
          · subst e; exact hc.symm
          · exact b j (by omega)⟩)
      · rw [if_neg hc]
        exact fin 0 (.inr ⟨rfl, decide_eq_false (fun hall => hc (hall i (by omega)).symm)⟩)
    · rw [if_pos a]
      exact fin 0 (.inr ⟨rfl, b⟩)
theorem m_lay_L (h : MW r N fl lo) (hs : SW n st sv yt yv vt vv) (hK : K ≤ 999) (eK : r 14 = nI K) : ∀ k m q (g f : Nat → Int32), k < m → q + k = 100 → (∀ p, p < q → ∀ s, s < 40 → g (40 * p + s) = nI (vb fl lo N K p (s + 1))) → (∀ p, p < q → f p = (if okq fl lo N K n st sv p = true then 1 else 0)) → ∃ a g' f', f_Mo_layDrafts_L4 (nI n) r vt vv m (nI (cnb (okq fl lo N K n st sv) q)) (nI q) g f = some (nI (cnb (okq fl lo N K n st sv) 100), a, g', f') ∧ (∀ p, p < 100 → ∀ s, s < 40 → g' (40 * p + s) = nI (vb fl lo N K p (s + 1))) ∧ (∀ p, p < 100 → f' p = (if okq fl lo N K n st sv p = true then 1 else 0)) := by
  have hn := hs.1
  intro k
  induction k with
  | zero =>
    intro m q g f hm hq hg hf
    obtain ⟨m, rfl⟩ : ∃ q, m = q + 1 := ⟨m - 1, by omega⟩
    obtain rfl : q = 100 := by omega
    refine ⟨nI 100, g, f, ?_, hg, hf⟩
    rw [f_Mo_layDrafts_L4_s, if_pos (by decide)]
  | succ k ih =>
    intro m q g f hm hq hg hf
    obtain ⟨m, rfl⟩ : ∃ q, m = q + 1 := ⟨m - 1, by omega⟩
    obtain ⟨a, b, g', v1, v2, v3⟩ := m_lay_v h hK eK (q := q) (by omega) 40 FU 0 g (by decide) (by omega) (fun s hs => absurd hs (by omega))
    have v1' : f_Mo_layDrafts_L21 r (nI q) FU (nI K) (0 : Int32) g = some (a, b, g') := v1
    obtain ⟨c, f', w1, w2, w3⟩ := m_lay_f (fl := fl) (lo := lo) (N := N) (K := K) hs (q := q) (by omega) (a, b, g') v2 n FU 0 (upd f q 1) (by unfold FU; omega) (by omega) (.inl ⟨upd_at .., fun j hj => absurd hj (by omega)⟩)
    have w1' : f_Mo_layDrafts_L80 (nI n) vt vv (nI q) (a, b, g') FU (0 : Int32) (upd f q 1) = some (c, f') := w1
    have w1'' : f_Mo_layDrafts_L80 (nI n) vt vv (nI q) (a, b, g') FU (0 : Int32) (upd f (nI q).toNatClampNeg (vp_nar .boolean (1 : Int32))) = some (c, f') := by rw [nI_clamp (by omega), nb1]; exact w1'
    have hg' : ∀ p, p < q + 1 → ∀ s, s < 40 → g' (40 * p + s) = nI (vb fl lo N K p (s + 1)) := by
      intro p hp s hs
      by_cases e : p = q
      · subst e; exact v2 s hs
      · rw [v3 _ (by omega)]; exact hg p (by omega) s hs
    have hf' : ∀ p, p < q + 1 → f' p = (if okq fl lo N K n st sv p = true then 1 else 0) := by
      intro p hp
      by_cases e : p = q
      · subst e; exact w2
      · rw [w3 p e, upd_ne e]; exact hf p (by omega)
    rw [f_Mo_layDrafts_L4_s, if_neg (show ¬ (100 : Int32) ≤ nI q from nI_ge (b := 100) (by omega) (by decide)), if_neg (by decide), show (14 : Int32).toNatClampNeg = 14 from rfl, eK, v1', z_obs, if_neg (ixn (by omega) (by decide)), w1'', z_obs, if_neg (ixn (by omega) (by decide)), nI_clamp (by omega)]
    dsimp only
    rw [nI_1, nI_1, Int32.add_zero]
    by_cases ho : okq fl lo N K n st sv q = true
    · have ec : cnb (okq fl lo N K n st sv) (q + 1) = cnb (okq fl lo N K n st sv) q + 1 := by rw [cnb, if_pos ho]
      rw [if_neg (show ¬ f' q = 0 by rw [w2, if_pos ho]; decide), ← ec]
      exact ih m (q + 1) g' f' (by omega) (by omega) hg' hf'
    · have ec : cnb (okq fl lo N K n st sv) (q + 1) = cnb (okq fl lo N K n st sv) q := by rw [cnb, if_neg ho]; rfl
      rw [if_pos (show f' q = 0 by rw [w2, if_neg ho]), ← ec]
      exact ih m (q + 1) g' f' (by omega) (by omega) hg' hf'
theorem m_lay (h : MW r N fl lo) (hs : SW n st sv yt yv vt vv) (hK : K ≤ 999) (eK : r 14 = nI K) (g f : Nat → Int32) : ∃ g' f', f_Mo_layDrafts (nI n) r vt vv g f = some (nI (cnb (okq fl lo N K n st sv) 100), g', f') ∧ (∀ p, p < 100 → ∀ s, s < 40 → g' (40 * p + s) = nI (vb fl lo N K p (s + 1))) ∧ (∀ p, p < 100 → f' p = (if okq fl lo N K n st sv p = true then 1 else 0)) := by
  obtain ⟨a, g', f', e1, e2, e3⟩ := m_lay_L h hs hK eK 100 FU 0 g f (by decide) (by decide) (fun p hp => absurd hp (by omega)) (fun p hp => absurd hp (by omega))
  have e1' : f_Mo_layDrafts_L4 (nI n) r vt vv FU (0 : Int32) (0 : Int32) g f = _ := e1
  refine ⟨g', f', ?_, e2, e3⟩
  rw [f_Mo_layDrafts, e1']; rfl
end FIT
/-- going down from k: the least that is so -/
def fstq (p : Nat → Bool) : Nat → Int32 → Int32
  | 0, x => x
  | k + 1, x => fstq p k (if p k = true then nI k else x)
theorem fstq_no (p : Nat → Bool) : ∀ k x, (∀ i, i < k → p i = false) → fstq p k x = x
  | 0, _, _ => rfl
  | k + 1, x, h => by
    rw [fstq, if_neg (Bool.eq_false_iff.mp (h k (by omega)))]
    exact fstq_no p k x (fun i hi => h i (by omega))
theorem fstq_at (p : Nat → Bool) {i : Nat} (hp : p i = true) (h0 : cnb p i = 0) : ∀ k x, i < k → fstq p k x = nI i
  | 0, _, h => absurd h (by omega)
  | k + 1, x, h => by
    rw [fstq]
    by_cases e : i = k
    · subst e; rw [if_pos hp]; exact fstq_no p i _ (cnb_0 p i h0)
    · exact fstq_at p hp h0 k _ (by omega)
theorem m_first (p : Nat → Bool) (z3 : Int32 × (Nat → Int32) × (Nat → Int32)) (hz : ∀ i, i < 100 → z3.2.2 i = (if p i = true then 1 else 0)) : ∀ k m x, k < m → k ≤ 100 → ∃ b, f_Mo_fits_L23 z3 m x (nI k + (-1)) = some (fstq p k x, b) := by
  intro k
  induction k with
  | zero =>
    intro m x hm hk
    obtain ⟨m, rfl⟩ : ∃ q, m = q + 1 := ⟨m - 1, by omega⟩
    rw [f_Mo_fits_L23_s, if_pos (by decide)]
    exact ⟨_, rfl⟩
  | succ k ih =>
    intro m x hm hk
    obtain ⟨m, rfl⟩ : ∃ q, m = q + 1 := ⟨m - 1, by omega⟩
    rw [pk_m1, f_Mo_fits_L23_s, if_neg (nI_pos (by omega)), if_neg (ixn (by omega) (by decide)), nI_clamp (by omega), hz k (by omega), fstq]
    by_cases ho : p k = true
    · rw [if_pos ho, if_pos ho, if_neg (by decide)]
      exact ih m _ (by omega) (by omega)
    · rw [if_neg ho, if_neg ho, if_pos rfl]
      exact ih m _ (by omega) (by omega)
theorem pl_fits (X : Nat → Int32) (Y ri rl rf : Nat → Nat → Int32) (im : Nat → Option Nat) (vi vl vf : Nat → Nat → Int32) (U : Nat → Int32) (V : Nat → Nat → Int32) (Z : Nat → Int64) (p0 : Int32) (h : Rel X Y ri rl rf im vi vl vf U V Z) : ∃ (out : Int32 × Int32 × (Nat → Int32)) (mout : Int32 × (Nat → Int32) × (Nat → Int32)), f_Ye_fits (X 0) (X 2) (Y 0) (Y 1) (X 31) (X 32) (Y 7) (Y 8) (Y 9) p0 = some out ∧ f_Mo_fits (U 1) (V 0) (V 5) (V 6) (V 10) (V 11) p0 = some mout ∧ out.1 = mout.1 ∧ Rel (va_up X 32 out.2.1) (va_up Y 9 out.2.2) ri rl rf im vi vl vf U (va_up (va_up V 10 mout.2.1) 11 mout.2.2) Z := by
  have h0 := h
  obtain ⟨⟨hB, hV⟩, hT, hH, hl0, hS, hI⟩ := h
  obtain ⟨N, fl, lo, D, K, T, v, hM, hW⟩ := hV.out
  have hC := hB.cw hM
  obtain ⟨b0, b1, b2, -⟩ := id hB
  obtain ⟨w1, w2, w3, w4, w5, w6, w7, w8⟩ := id hW
  have x2 : X 2 = nI K := b2.symm.trans w6
  obtain ⟨n, en1, en2, hs⟩ := hS.out
  by_cases hp : 0 ≤ p0 ∧ p0 ≤ 1
  · obtain ⟨d, e1, e2⟩ := c_find hC hs w2 (Y 9)
    obtain ⟨g, f, k1, k2, k3⟩ := m_lay hM hs w2 w6 (V 10) (V 11)
    obtain ⟨z, m1⟩ := m_first (okq fl lo N K n (fun i => (Y 7 i).toNatClampNeg) (Y 8)) (nI (cnb (okq fl lo N K n (fun i => (Y 7 i).toNatClampNeg) (Y 8)) 100), g, f) k3 100 FU (-9) (by decide) (by decide)
    have m1' : f_Mo_fits_L23 (nI (cnb (okq fl lo N K n (fun i => (Y 7 i).toNatClampNeg) (Y 8)) 100), g, f) FU (-9 : Int32) (99 : Int32) = _ := m1
    have ec : ∀ q : Int32, 0 ≤ q ∧ q ≤ 1 → f_Ye_fits (X 0) (X 2) (Y 0) (Y 1) (X 31) (X 32) (Y 7) (Y 8) (Y 9) q = _ := fun q hq => by
      rw [f_Ye_fits, isOut, if_pos hq, z_obs, if_pos rfl, en1, x2, e1, z_obs]
    have em : ∀ q : Int32, 0 ≤ q ∧ q ≤ 1 → f_Mo_fits (U 1) (V 0) (V 5) (V 6) (V 10) (V 11) q = _ := fun q hq => by
      rw [f_Mo_fits, mIn, if_pos hq, z_obs, if_neg (by decide), en2, k1, z_obs, m1', z_obs]
    have hcl := cnb_le (okq fl lo N K n (fun i => (Y 7 i).toNatClampNeg) (Y 8)) 100
    rcases nI01 hp with rfl | rfl
    · refine ⟨(nI (cnb (okq fl lo N K n (fun i => (Y 7 i).toNatClampNeg) (Y 8)) 100), nI (cnb (okq fl lo N K n (fun i => (Y 7 i).toNatClampNeg) (Y 8)) 100), d), (nI (cnb (okq fl lo N K n (fun i => (Y 7 i).toNatClampNeg) (Y 8)) 100), g, f), ?_, ?_, rfl, ⟨hB, hV⟩, hT, hH, hl0, hS, hI⟩
      · rw [ec 0 hp, if_pos rfl]
      · rw [em 0 hp, if_pos rfl]
    · by_cases hz : cnb (okq fl lo N K n (fun i => (Y 7 i).toNatClampNeg) (Y 8)) 100 = 0
      · refine ⟨(-9, nI (cnb (okq fl lo N K n (fun i => (Y 7 i).toNatClampNeg) (Y 8)) 100), d), (-9, g, f), ?_, ?_, rfl, ⟨hB, hV⟩, hT, hH, hl0, hS, hI⟩
        · rw [ec 1 hp, if_neg (by decide), if_pos (show nI (cnb (okq fl lo N K n (fun i => (Y 7 i).toNatClampNeg) (Y 8)) 100) = (0 : Int32) by rw [hz]; rfl)]
        · rw [em 1 hp, if_neg (by decide), fstq_no _ _ _ (cnb_0 _ _ hz)]
      · obtain ⟨i, i1, i2, i3⟩ := cnb_kth _ 0 100 (Nat.pos_of_ne_zero hz)
        have ed := e2 i i1 i2
        rw [i3] at ed
        refine ⟨(nI i, nI (cnb (okq fl lo N K n (fun i => (Y 7 i).toNatClampNeg) (Y 8)) 100), d), (nI i, g, f), ?_, ?_, rfl, ⟨hB, hV⟩, hT, hH, hl0, hS, hI⟩
        · rw [ec 1 hp, if_neg (by decide), if_neg (nI_ne0 (by omega) (by omega)), f_Si_firstDraft, if_neg (by decide), show (0 : Int32).toNatClampNeg = 0 from rfl]
          show (some (d 0)).bind _ = _
          rw [ed]; rfl
        · rw [em 1 hp, if_neg (by decide), fstq_at _ i2 i3 _ _ i1]
  · refine ⟨(-1, X 32, Y 9), (-1, V 10, V 11), ?_, ?_, rfl, ?_⟩
    · rw [f_Ye_fits, isOut, if_neg hp]; rfl
    · rw [f_Mo_fits, mIn, if_neg hp]; rfl
    · simp only [vu_self]; exact h0
