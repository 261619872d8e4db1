/-! ===== LOOK ===== -/
def ctv (w : Nat → Nat) (v : Nat) : Nat → Nat
  | 0 => 0
  | i + 1 => ctv w v i + (if w i = v then 1 else 0)
def ctf (p : Nat → Bool) (W : Nat → Nat) (v : Nat) : Nat → Nat
  | 0 => 0
  | i + 1 => ctf p W v i + (if p i = true ∧ W i = v then 1 else 0)
def mxr (f : Nat → Nat) : Nat → Nat
  | 0 => 0
  | n + 1 => if mxr f n < f n then f n else mxr f n
theorem ctv_le (w : Nat → Nat) (v : Nat) : ∀ i, ctv w v i ≤ i
  | 0 => Nat.le_refl _
  | i + 1 => by have := ctv_le w v i; rw [ctv]; split <;> omega
theorem ctf_le (p : Nat → Bool) (W : Nat → Nat) (v : Nat) : ∀ i, ctf p W v i ≤ i
  | 0 => Nat.le_refl _
  | i + 1 => by have := ctf_le p W v i; rw [ctf]; split <;> omega
theorem mxr_ub (f : Nat → Nat) : ∀ n v, v < n → f v ≤ mxr f n
  | 0, _, h => absurd h (by omega)
  | n + 1, v, h => by
    rw [mxr]
    by_cases e : v = n
    · subst e; split <;> omega
    · have := mxr_ub f n v (by omega)
      split <;> omega
theorem mxr_lub (f : Nat → Nat) (b : Nat) : ∀ n, (∀ v, v < n → f v ≤ b) → mxr f n ≤ b
  | 0, _ => Nat.zero_le _
  | n + 1, h => by
    have h1 := mxr_lub f b n (fun v hv => h v (by omega))
    have h2 := h n (by omega)
    rw [mxr]; split <;> omega
/-- the greatest number that are alike -/
def gg (w : Nat → Nat) (i : Nat) : Nat := mxr (fun v => ctv w v i) 1000
theorem gg_0 (w : Nat → Nat) : gg w 0 = 0 := Nat.le_antisymm (mxr_lub _ 0 _ (fun v _ => Nat.le_refl _)) (Nat.zero_le _)
theorem gg_le (w : Nat → Nat) (i : Nat) : gg w i ≤ i := mxr_lub _ _ _ (fun v _ => ctv_le w v i)
theorem gg_s (w : Nat → Nat) (i : Nat) (h : w i < 1000) : gg w (i + 1) = if gg w i < ctv w (w i) i + 1 then ctv w (w i) i + 1 else gg w i := by
  have e1 : ctv w (w i) (i + 1) = ctv w (w i) i + 1 := by rw [ctv, if_pos rfl]
  have e2 : ∀ v, w i ≠ v → ctv w v (i + 1) = ctv w v i := fun v hv => by rw [ctv, if_neg hv]; rfl
  have u1 : ctv w (w i) (i + 1) ≤ gg w (i + 1) := mxr_ub (fun v => ctv w v (i + 1)) 1000 (w i) h
  have u2 : gg w i ≤ gg w (i + 1) := mxr_lub _ _ _ (fun v hv => Nat.le_trans (show ctv w v i ≤ ctv w v (i + 1) by rw [ctv]; omega) (mxr_ub (fun v => ctv w v (i + 1)) 1000 v hv))
  have u3 : ∀ b, ctv w (w i) i + 1 ≤ b → gg w i ≤ b → gg w (i + 1) ≤ b := fun b h1 h2 => mxr_lub _ _ _ (fun v hv => by
    by_cases e : w i = v
    · subst e; rw [e1]; exact h1
    · rw [e2 v e]; exact Nat.le_trans (mxr_ub (fun v => ctv w v i) 1000 v hv) h2)
  rw [e1] at u1
  split
  · have := u3 (ctv w (w i) i + 1) (Nat.le_refl _) (by omega); omega
  · have := u3 (gg w i) (by omega) (Nat.le_refl _); omega
theorem ctf_ctv (p : Nat → Bool) (W d : Nat → Nat) (hd : ∀ q, q < 100 → p q = true → d (cnb p q) = q) (v : Nat) : ∀ q, q ≤ 100 → ctf p W v q = ctv (fun j => W (d j)) v (cnb p q)
  | 0, _ => rfl
  | q + 1, h => by
    have ih := ctf_ctv p W d hd v q (by omega)
    rw [ctf, cnb]
    by_cases ho : p q = true
    · rw [if_pos ho, ctv, ← ih, hd q (by omega) ho]
      by_cases e : W q = v
      · rw [if_pos ⟨ho, e⟩, if_pos e]
      · rw [if_neg (fun z => e z.2), if_neg e]
    · rw [if_neg ho, if_neg (fun z => ho z.1), ih]; rfl
theorem ctf_pos (p : Nat → Bool) (W : Nat → Nat) (v : Nat) : ∀ q, 0 < ctf p W v q → ∃ r, r < q ∧ p r = true ∧ W r = v
  | 0, h => absurd h (by rw [ctf]; omega)
  | q + 1, h => by
    by_cases hq : 0 < ctf p W v q
    · obtain ⟨r, a, b⟩ := ctf_pos p W v q hq
      exact ⟨r, by omega, b⟩
    · rw [ctf] at h
      by_cases e : p q = true ∧ W q = v
      · exact ⟨q, by omega, e⟩
      · rw [if_neg e] at h; omega
/-- by all twos and by counting: the same -/
theorem most_gg (p : Nat → Bool) (W d : Nat → Nat) (hd : ∀ q, q < 100 → p q = true → d (cnb p q) = q) (hW : ∀ q, W q < 1000) : mxr (fun q => if p q = true then ctf p W (W q) 100 else 0) 100 = gg (fun j => W (d j)) (cnb p 100) := by
  refine Nat.le_antisymm (mxr_lub _ _ _ (fun q hq => ?_)) (mxr_lub _ _ _ (fun v hv => ?_))
  · show (if p q = true then ctf p W (W q) 100 else 0) ≤ _
    split
    · rw [ctf_ctv p W d hd _ 100 (Nat.le_refl _)]
      exact mxr_ub (fun v => ctv (fun j => W (d j)) v (cnb p 100)) 1000 (W q) (hW q)
    · exact Nat.zero_le _
  · show ctv (fun j => W (d j)) v (cnb p 100) ≤ _
    rw [← ctf_ctv p W d hd v 100 (Nat.le_refl _)]
    by_cases h0 : 0 < ctf p W v 100
    · obtain ⟨r, a, b, c⟩ := ctf_pos p W v 100 h0
      have := mxr_ub (fun q => if p q = true then ctf p W (W q) 100 else 0) 100 r a
      rw [show (if p r = true then ctf p W (W r) 100 else 0) = ctf p W v 100 from (if_pos b).trans (by rw [c])] at this
      exact this
    · omega
section LOO
variable {per : Int32} {inf los : Nat → Int32} {N K F : Nat} {fl lo d w : Nat → Nat}
theorem c_dAt {g : Nat → Int32} {v : Nat} (hv : v ≤ 999) : f_Si_draftsAt g (nI v) = some (g v) := by
  rw [f_Si_draftsAt, isOut, if_pos (show (0 : Int32) ≤ nI v ∧ nI v ≤ (999 : Int32) from nI_rng' (M := 999) (by decide) hv), z_obs, if_pos rfl, if_neg (ixn (by omega) (by decide)), nI_clamp (by omega)]
theorem c_dSet {g : Nat → Int32} {v : Nat} (x : Int32) (hv : v ≤ 999) : f_Si_setDraftsAt g (nI v) x = some (upd g v x) := by
  rw [f_Si_setDraftsAt, isOut, if_pos (show (0 : Int32) ≤ nI v ∧ nI v ≤ (999 : Int32) from nI_rng' (M := 999) (by decide) hv), z_obs, if_pos rfl, if_neg (ixn (by omega) (by decide)), nI_clamp (by omega)]
theorem c_gw (hF : F ≤ 100) {vol : Nat → Int32} (hv : ∀ j, j < F → vol j = nI (w j)) (hw : ∀ j, j < F → w j ≤ 999) : ∀ k m i (g : Nat → Int32), k < m → i + k = F → (∀ j, j < i → g (w j) = 0) → ∃ a g', f_Si_greatestGroup_L2 (nI F) vol m (nI i) g = some (a, g') ∧ ∀ j, j < F → g' (w j) = 0 := by
  intro k
  induction k with
  | zero =>
    intro m i g hm hi hg
    obtain ⟨m, rfl⟩ : ∃ q, m = q + 1 := ⟨m - 1, by omega⟩
    refine ⟨nI i, g, ?_, fun j hj => hg j (by omega)⟩
    rw [f_Si_greatestGroup_L2_s, if_pos (nI_le (by omega) (by omega))]
  | succ k ih =>
    intro m i g hm hi hg
    obtain ⟨m, rfl⟩ : ∃ q, m = q + 1 := ⟨m - 1, by omega⟩
    rw [f_Si_greatestGroup_L2_s, if_neg (nI_ge (by omega) (by omega)), if_neg (ixn (by omega) (by decide)), nI_clamp (by omega), hv i (by omega), c_dSet _ (hw i (by omega)), z_obs, nI_1]
    exact ih m (i + 1) _ (by omega) (by omega) (fun j hj => by
      by_cases e : w j = w i
      · rw [e, upd_at]
      · rw [upd_ne e]; exact hg j (by
          have : j ≠ i := fun q => e (by rw [q])
          omega))
theorem c_gc (hF : F ≤ 100) {vol : Nat → Int32} (hv : ∀ j, j < F → vol j = nI (w j)) (hw : ∀ j, j < F → w j ≤ 999) : ∀ k m i (g : Nat → Int32), k < m → i + k = F → (∀ j, j < F → g (w j) = nI (ctv w (w j) i)) → ∃ a g', f_Si_greatestGroup_L31 (nI F) vol m (nI (gg w i)) (nI i) g = some (nI (gg w F), a, g') := by
  intro k
  induction k with
  | zero =>
    intro m i g hm hi hg
    obtain ⟨m, rfl⟩ : ∃ q, m = q + 1 := ⟨m - 1, by omega⟩
    obtain rfl : i = F := by omega
    rw [f_Si_greatestGroup_L31_s, if_pos (nI_le (by omega) (by omega))]
    exact ⟨_, _, rfl⟩
  | succ k ih =>
    intro m i g hm hi hg
    obtain ⟨m, rfl⟩ : ∃ q, m = q + 1 := ⟨m - 1, by omega⟩
    have h1 := gg_le w i
    have h2 := ctv_le w (w i) i
    have h3 := hw i (by omega)
    rw [f_Si_greatestGroup_L31_s, if_neg (nI_ge (by omega) (by omega)), if_neg (ixn (by omega) (by decide)), nI_clamp (by omega), hv i (by omega), c_dAt h3, z_obs, c_dSet _ h3, z_obs, hg i (by omega), nI_1, nI_1]
    have e : (if nI (gg w i) < nI (ctv w (w i) i + 1) then nI (ctv w (w i) i + 1) else nI (gg w i)) = nI (gg w (i + 1)) := by
      rw [gg_s w i (by omega)]
      by_cases hc : gg w i < ctv w (w i) i + 1
      · rw [if_pos hc, if_pos (nI_lt hc (by omega))]
      · rw [if_neg hc, if_neg (nI_nlt (by omega) (by omega))]
    rw [e]
    exact ih m (i + 1) _ (by omega) (by omega) (fun j hj => by
      by_cases e : w j = w i
      · rw [e, upd_at, ctv, if_pos rfl]
      · rw [upd_ne e, hg j hj, ctv, if_neg (fun q => e q.symm)]; rfl)
theorem c_group (hF : F ≤ 100) {vol : Nat → Int32} (hv : ∀ j, j < F → vol j = nI (w j)) (hw : ∀ j, j < F → w j ≤ 999) (g : Nat → Int32) : ∃ g', f_Si_greatestGroup (nI F) vol g = some (nI (gg w F), g') := by
  obtain ⟨a, g1, e1, e2⟩ := c_gw hF hv hw F FU 0 g (by unfold FU; omega) (by omega) (fun j hj => absurd hj (by omega))
  have e1' : f_Si_greatestGroup_L2 (nI F) vol FU (0 : Int32) g = _ := e1
  obtain ⟨b, g2, e3⟩ := c_gc hF hv hw F FU 0 g1 (by unfold FU; omega) (by omega) (fun j hj => e2 j hj)
  rw [gg_0] at e3
  have e3' : f_Si_greatestGroup_L31 (nI F) vol FU (0 : Int32) (0 : Int32) g1 = _ := e3
  refine ⟨g2, ?_⟩
  rw [f_Si_greatestGroup, e1', z_obs, e3']; rfl
theorem c_pass_L (h : CW per inf los N fl lo) (hK : K ≤ 999) (hF : F ≤ 100) {df : Nat → Int32} (hd : ∀ j, j < F → df j = nI (d j) ∧ d j ≤ 99) {t : Nat} (ht : t < 100000) : ∀ k m i (vol : Nat → Int32), k < m → i + k = F → (∀ j, j < i → vol j = nI (vb fl lo N K (d j) (t + 1))) → (∀ j, i ≤ j → j < F → vol j = nI (vb fl lo N K (d j) t)) → ∃ a vol', f_Si_passAll_L2 (nI F) df per (nI K) inf los (nI t) m (nI i) vol = some (a, vol') ∧ ∀ j, j < F → vol' j = nI (vb fl lo N K (d j) (t + 1)) := by
  intro k
  induction k with
  | zero =>
    intro m i vol hm hi h1 h2
    obtain ⟨m, rfl⟩ : ∃ q, m = q + 1 := ⟨m - 1, by omega⟩
    refine ⟨nI i, vol, ?_, fun j hj => h1 j (by omega)⟩
    rw [f_Si_passAll_L2_s, if_pos (nI_le (by omega) (by omega))]
  | succ k ih =>
    intro m i vol hm hi h1 h2
    obtain ⟨m, rfl⟩ : ∃ q, m = q + 1 := ⟨m - 1, by omega⟩
    obtain ⟨d1, d2⟩ := hd i (by omega)
    have hv := vb_le fl lo N K (d i) t
    have hr := h.rng t (v := vb fl lo N K (d i) t) (d := d i) (by omega) d2
    have e : nI (hl ((vb fl lo N K (d i) t : Int) + fl (t % N) - lo (vb fl lo N K (d i) t / 100) - d i) K) = nI (vb fl lo N K (d i) (t + 1)) := rfl
    rw [f_Si_passAll_L2_s, if_neg (nI_ge (by omega) (by omega)), if_neg (ixn (by omega) (by decide)), nI_clamp (by omega), h2 i (Nat.le_refl _) (by omega), d1, c_level h (by omega) (by omega), z_obs, c_held hr.1 hr.2 hK, z_obs, e, nI_1]
    exact ih m (i + 1) _ (by omega) (by omega) (fun j hj => by
      by_cases e : j = i
      · subst e; rw [upd_at]
      · rw [upd_ne e]; exact h1 j (by omega)) (fun j a b => by rw [upd_ne (by omega)]; exact h2 j (by omega) b)
theorem c_passAll (h : CW per inf los N fl lo) (hK : K ≤ 999) (hF : F ≤ 100) {df : Nat → Int32} (hd : ∀ j, j < F → df j = nI (d j) ∧ d j ≤ 99) {t : Nat} (ht : t < 100000) {vol : Nat → Int32} (hv : ∀ j, j < F → vol j = nI (vb fl lo N K (d j) t)) : ∃ vol', f_Si_passAll (nI F) df vol per (nI K) inf los (nI t) = some vol' ∧ ∀ j, j < F → vol' j = nI (vb fl lo N K (d j) (t + 1)) := by
  obtain ⟨a, vol', e1, e2⟩ := c_pass_L h hK hF hd ht F FU 0 vol (by unfold FU; omega) (by omega) (fun j hj => absurd hj (by omega)) (fun j _ b => hv j b)
  have e1' : f_Si_passAll_L2 (nI F) df per (nI K) inf los (nI t) FU (0 : Int32) vol = _ := e1
  refine ⟨vol', ?_, e2⟩
  rw [f_Si_passAll, e1']; rfl
theorem c_start (hF : F ≤ 100) : ∀ k m i (vol : Nat → Int32), k < m → i + k = F → (∀ j, j < i → vol j = nI K) → ∃ a vol', f_Si_tellingPeriod_L2 (nI F) (nI K) m (nI i) vol = some (a, vol') ∧ ∀ j, j < F → vol' j = nI K := by
  intro k
  induction k with
  | zero =>
    intro m i vol hm hi h1
    obtain ⟨m, rfl⟩ : ∃ q, m = q + 1 := ⟨m - 1, by omega⟩
    refine ⟨nI i, vol, ?_, fun j hj => h1 j (by omega)⟩
    rw [f_Si_tellingPeriod_L2_s, if_pos (nI_le (by omega) (by omega))]
  | succ k ih =>
    intro m i vol hm hi h1
    obtain ⟨m, rfl⟩ : ∃ q, m = q + 1 := ⟨m - 1, by omega⟩
    rw [f_Si_tellingPeriod_L2_s, if_neg (nI_ge (by omega) (by omega)), if_neg (ixn (by omega) (by decide)), nI_clamp (by omega), nI_1]
    exact ih m (i + 1) _ (by omega) (by omega) (fun j hj => by
      by_cases e : j = i
      · subst e; rw [upd_at]
      · rw [upd_ne e]; exact h1 j (by omega))
variable {p : Nat → Bool} {W : Nat → Nat} {g f : Nat → Int32}
theorem m_like_in (hf : ∀ q, q < 100 → f q = (if p q = true then 1 else 0)) {t : Nat} (ht : t < 40) (hg : ∀ q, q < 100 → g (40 * q + t) = nI (W q)) (hW : ∀ q, W q < 1000) {q : Nat} (hq : q < 100) (ho : p q = true) : ∀ k m i, k < m → i + k = 100 → ∃ b, f_Mo_mostLike_L16 g f (nI t) (nI q) m (nI (ctf p W (W q) i)) (nI i) = some (nI (ctf p W (W q) 100), b) := by
  intro k
  induction k with
  | zero =>
    intro m i hm hi
    obtain ⟨m, rfl⟩ : ∃ q, m = q + 1 := ⟨m - 1, by omega⟩
    obtain rfl : i = 100 := by omega
    rw [f_Mo_mostLike_L16_s, if_pos (by decide)]
    exact ⟨_, rfl⟩
  | succ k ih =>
    intro m i hm hi
    obtain ⟨m, rfl⟩ : ∃ q, m = q + 1 := ⟨m - 1, by omega⟩
    have ei : ∀ q, (40 : Int32) * nI q + nI t = nI (40 * q + t) := fun q => by rw [show (40 : Int32) * nI q = nI (40 * q) from z_mul 40 q, nI_add]
    have hWq := hW q
    have hWi := hW i
    rw [f_Mo_mostLike_L16_s, if_neg (show ¬ (100 : Int32) ≤ nI i from nI_ge (b := 100) (by omega) (by decide)), if_neg (ixn hq (by decide)), if_neg (show ¬ f (nI q).toNatClampNeg = 0 by rw [nI_clamp (by omega), hf q hq, if_pos ho]; decide), if_neg (ixn (show i < 100 by omega) (by decide)), ei i, ei q, if_neg (ixn (show 40 * i + t < 4000 by omega) (by decide)), if_neg (ixn (show 40 * q + t < 4000 by omega) (by decide)), nI_clamp (show i < 2 ^ 31 by omega), nI_clamp (show 40 * i + t < 2 ^ 31 by omega), nI_clamp (show 40 * q + t < 2 ^ 31 by omega), hg i (by omega), hg q hq, nI_1, nI_1, Int32.add_zero]
    obtain ⟨b, e⟩ := ih m (i + 1) (by omega) (by omega)
    by_cases hoi : p i = true
    · rw [if_neg (show ¬ f i = 0 by rw [hf i (by omega), if_pos hoi]; decide)]
      by_cases hc : W i = W q
      · rw [if_pos (show nI (W i) = nI (W q) by rw [hc])]
        rw [ctf, if_pos ⟨hoi, hc⟩] at e
        exact ⟨b, e⟩
      · rw [if_neg (fun z => hc ((nI_eq (by omega) (by omega)).mp z))]
        rw [ctf, if_neg (fun z => hc z.2), Nat.add_zero] at e
        exact ⟨b, e⟩
    · rw [if_pos (show f i = 0 by rw [hf i (by omega), if_neg hoi])]
      rw [ctf, if_neg (fun z => hoi z.1), Nat.add_zero] at e
      exact ⟨b, e⟩
theorem m_like_L (hf : ∀ q, q < 100 → f q = (if p q = true then 1 else 0)) {t : Nat} (ht : t < 40) (hg : ∀ q, q < 100 → g (40 * q + t) = nI (W q)) (hW : ∀ q, W q < 1000) : ∀ k m q, k < m → q + k = 100 → ∃ b, f_Mo_mostLike_L4 g f (nI t) m (nI (mxr (fun q => if p q = true then ctf p W (W q) 100 else 0) q)) (nI q) = some (nI (mxr (fun q => if p q = true then ctf p W (W q) 100 else 0) 100), b) := by
  intro k
  induction k with
  | zero =>
    intro m q hm hq
    obtain ⟨m, rfl⟩ : ∃ q, m = q + 1 := ⟨m - 1, by omega⟩
    obtain rfl : q = 100 := by omega
    rw [f_Mo_mostLike_L4_s, if_pos (by decide)]
    exact ⟨_, rfl⟩
  | succ k ih =>
    intro m q hm hq
    obtain ⟨m, rfl⟩ : ∃ q, m = q + 1 := ⟨m - 1, by omega⟩
    have hb : mxr (fun q => if p q = true then ctf p W (W q) 100 else 0) q ≤ 100 := mxr_lub _ _ _ (fun v _ => by
      show (if p v = true then ctf p W (W v) 100 else 0) ≤ 100
      have := ctf_le p W (W v) 100
      split <;> omega)
    have hx : ∃ b, f_Mo_mostLike_L16 g f (nI t) (nI q) FU (0 : Int32) (0 : Int32) = some (nI (if p q = true then ctf p W (W q) 100 else 0), b) := by
      by_cases ho : p q = true
      · rw [if_pos ho]; exact m_like_in hf ht hg hW (by omega) ho 100 FU 0 (by decide) (by decide)
      · rw [if_neg ho, show FU = 1999 + 1 from rfl, f_Mo_mostLike_L16_s, if_neg (by decide), if_neg (ixn (show q < 100 by omega) (by decide)), if_pos (show f (nI q).toNatClampNeg = 0 by rw [nI_clamp (by omega), hf q (by omega), if_neg ho])]
        exact ⟨_, rfl⟩
    obtain ⟨b, e⟩ := hx
    have hc := ctf_le p W (W q) 100
    rw [f_Mo_mostLike_L4_s, if_neg (show ¬ (100 : Int32) ≤ nI q from nI_ge (b := 100) (by omega) (by decide)), e, z_obs, nI_1]
    obtain ⟨c, e2⟩ := ih m (q + 1) (by omega) (by omega)
    rw [mxr] at e2
    by_cases hlt : mxr (fun q => if p q = true then ctf p W (W q) 100 else 0) q < (if p q = true then ctf p W (W q) 100 else 0)
    · rw [if_neg (nI_ge hlt (by split <;> omega))]
      rw [if_pos hlt] at e2
      exact ⟨c, e2⟩
    · rw [if_pos (nI_le (by omega) (by omega))]
      rw [if_neg hlt] at e2
      exact ⟨c, e2⟩
theorem m_like (hf : ∀ q, q < 100 → f q = (if p q = true then 1 else 0)) {t : Nat} (ht : t < 40) (hg : ∀ q, q < 100 → g (40 * q + t) = nI (W q)) (hW : ∀ q, W q < 1000) (hd : ∀ q, q < 100 → p q = true → d (cnb p q) = q) : f_Mo_mostLike g f (nI t) = some (nI (gg (fun j => W (d j)) (cnb p 100))) := by
  obtain ⟨b, e⟩ := m_like_L hf ht hg hW 100 FU 0 (by decide) (by decide)
  rw [most_gg p W d hd hW] at e
  have e' : f_Mo_mostLike_L4 g f (nI t) FU (0 : Int32) (0 : Int32) = _ := e
  rw [f_Mo_mostLike, e']; rfl
end LOO
section LOK
variable {per : Int32} {inf los df g f : Nat → Int32} {N K : Nat} {fl lo d : Nat → Nat} {p : Nat → Bool}
theorem look_both (h : CW per inf los N fl lo) (hK : K ≤ 999) (hdf : ∀ j, j < cnb p 100 → df j = nI (d j) ∧ d j ≤ 99) (hd : ∀ q, q < 100 → p q = true → d (cnb p q) = q) (hf : ∀ q, q < 100 → f q = (if p q = true then 1 else 0)) (hg : ∀ q, q < 100 → ∀ s, s < 40 → g (40 * q + s) = nI (vb fl lo N K q (s + 1))) (x : Int32) : ∀ k n m t (B L : Int32) (vol tab : Nat → Int32), k < n → k < m → t + k = 40 → (∀ j, j < cnb p 100 → vol j = nI (vb fl lo N K (d j) t)) → ∃ B' L' a b vol' tab', f_Si_tellingPeriod_L39 (nI (cnb p 100)) df per (nI K) inf los n B L (nI t) vol tab = some (B', L', a, vol', tab') ∧ f_Mo_look_L18 (x, g, f) m B L (nI t) = some (B', L', b) := by
  have hF := cnb_le p 100
  intro k
  induction k with
  | zero =>
    intro n m t B L vol tab hn hm ht hv
    obtain ⟨n, rfl⟩ : ∃ q, n = q + 1 := ⟨n - 1, by omega⟩
    obtain ⟨m, rfl⟩ : ∃ q, m = q + 1 := ⟨m - 1, by omega⟩
    refine ⟨B, L, nI t, nI t, vol, tab, ?_, ?_⟩
    · rw [f_Si_tellingPeriod_L39_s, if_pos (show (40 : Int32) ≤ nI t from nI_le (a := 40) (by omega) (by omega))]
    · rw [f_Mo_look_L18_s, if_pos (show (40 : Int32) ≤ nI t from nI_le (a := 40) (by omega) (by omega))]
  | succ k ih =>
    intro n m t B L vol tab hn hm ht hv
    obtain ⟨n, rfl⟩ : ∃ q, n = q + 1 := ⟨n - 1, by omega⟩
    obtain ⟨m, rfl⟩ : ∃ q, m = q + 1 := ⟨m - 1, by omega⟩
    obtain ⟨vol', e1, e2⟩ := c_passAll h hK hF hdf (t := t) (by omega) hv
    obtain ⟨tab', e3⟩ := c_group (F := cnb p 100) (w := fun j => vb fl lo N K (d j) (t + 1)) hF e2 (fun j _ => Nat.le_trans (vb_le _ _ _ _ _ _) hK) tab
    have e4 : f_Mo_mostLike g f (nI t) = some (nI (gg (fun j => vb fl lo N K (d j) (t + 1)) (cnb p 100))) := m_like (W := fun q => vb fl lo N K q (t + 1)) hf (by omega) (fun q hq => hg q hq t (by omega)) (fun q => by have := vb_le fl lo N K q (t + 1); omega) hd
    rw [f_Si_tellingPeriod_L39_s, if_neg (show ¬ (40 : Int32) ≤ nI t from nI_ge (b := 40) (by omega) (by decide)), e1, z_obs, e3, z_obs, f_Mo_look_L18_s, if_neg (show ¬ (40 : Int32) ≤ nI t from nI_ge (b := 40) (by omega) (by decide)), e4, z_obs, nI_1]
    by_cases hc : L ≤ nI (gg (fun j => vb fl lo N K (d j) (t + 1)) (cnb p 100))
    · rw [if_pos hc, if_pos hc]
      exact ih n m (t + 1) B L vol' tab' (by omega) (by omega) (by omega) e2
    · rw [if_neg hc, if_neg hc]
      exact ih n m (t + 1) _ _ vol' tab' (by omega) (by omega) (by omega) e2
theorem look_start (h : CW per inf los N fl lo) (hK : K ≤ 999) (hdf : ∀ j, j < cnb p 100 → df j = nI (d j) ∧ d j ≤ 99) (hd : ∀ q, q < 100 → p q = true → d (cnb p q) = q) (hf : ∀ q, q < 100 → f q = (if p q = true then 1 else 0)) (hg : ∀ q, q < 100 → ∀ s, s < 40 → g (40 * q + s) = nI (vb fl lo N K q (s + 1))) (x : Int32) (vol tab : Nat → Int32) : ∃ B L b vol' tab', f_Si_tellingPeriod (nI (cnb p 100)) df vol tab per (nI K) inf los = some (B, vol', tab') ∧ f_Mo_look_L18 (x, g, f) FU (0 : Int32) (101 : Int32) (0 : Int32) = some (B, L, b) := by
  have hF := cnb_le p 100
  obtain ⟨a, vol0, s1, s2⟩ := c_start (K := K) hF (cnb p 100) FU 0 vol (by unfold FU; omega) (by omega) (fun j hj => absurd hj (by omega))
  have s1' : f_Si_tellingPeriod_L2 (nI (cnb p 100)) (nI K) FU (0 : Int32) vol = some (a, vol0) := s1
  obtain ⟨vol', e1, e2⟩ := c_passAll h hK hF hdf (t := 0) (by omega) (vol := vol0) s2
  obtain ⟨tab', e3⟩ := c_group (F := cnb p 100) (w := fun j => vb fl lo N K (d j) (0 + 1)) hF e2 (fun j _ => Nat.le_trans (vb_le _ _ _ _ _ _) hK) tab
  have e4 : f_Mo_mostLike g f (nI 0) = some (nI (gg (fun j => vb fl lo N K (d j) (0 + 1)) (cnb p 100))) := m_like (W := fun q => vb fl lo N K q (0 + 1)) hf (by omega) (fun q hq => hg q hq 0 (by omega)) (fun q => by have := vb_le fl lo N K q (0 + 1); omega) hd
  obtain ⟨B, L, a2, b, vol2, tab2, k1, k2⟩ := look_both h hK hdf hd hf hg x 39 1999 1999 1 (nI 0) (nI (gg (fun j => vb fl lo N K (d j) (0 + 1)) (cnb p 100))) vol' tab' (by decide) (by decide) (by decide) e2
  have hG := gg_le (fun j => vb fl lo N K (d j) (0 + 1)) (cnb p 100)
  refine ⟨B, L, b, vol2, tab2, ?_, ?_⟩
  · rw [f_Si_tellingPeriod, s1', z_obs, show FU = 1999 + 1 from rfl, show (0 : Int32) = nI 0 from rfl, f_Si_tellingPeriod_L39_s, if_neg (by decide), e1, z_obs, e3, z_obs, nI_1, nI_1, if_neg (nI_ge (by omega) (by omega))]
    rw [show 0 + 1 = 1 from rfl] at k1 ⊢
    rw [k1]; rfl
  · rw [show FU = 1999 + 1 from rfl, show (0 : Int32) = nI 0 from rfl, f_Mo_look_L18_s, if_neg (by decide), e4, z_obs, nI_1, if_neg (show ¬ (101 : Int32) ≤ _ from nI_ge (b := 101) (by omega) (by decide))]
    exact k2
end LOK
theorem pl_look (X : Nat → Int32) (Y ri rl rf : Nat → Nat → Int32) (im : Nat → Option Nat) (vi vl vf : Nat → Nat → Int32) (U : Nat → Int32) (V : Nat → Nat → Int32) (Z : Nat → Int64) (h : Rel X Y ri rl rf im vi vl vf U V Z) : ∃ (out : Int32 × Int32 × (Nat → Int32) × (Nat → Int32) × (Nat → Int32)) (mout : Int32 × (Nat → Int32) × (Nat → Int32)), f_Ye_look (X 0) (X 2) (Y 0) (Y 1) (X 31) (Y 7) (Y 8) (Y 9) (Y 10) (Y 11) = some out ∧ f_Mo_look (U 1) (V 0) (V 5) (V 6) (V 10) (V 11) = some mout ∧ out.1 = mout.1 ∧ Rel (va_up X 32 out.2.1) (va_up (va_up (va_up Y 9 out.2.2.1) 10 out.2.2.2.1) 11 out.2.2.2.2) ri rl rf im vi vl vf U (va_up (va_up V 10 mout.2.1) 11 mout.2.2) Z := by
  have h0 := h
  obtain ⟨⟨hB, hV⟩, hT, hH, hl0, hS, hI⟩ := h
  obtain ⟨N, fl, lo, D, K, T, v, hM, hW⟩ := hV.out
  have hC := hB.cw hM
  obtain ⟨b0, b1, b2, -⟩ := id hB
  obtain ⟨w1, w2, w3, w4, w5, w6, w7, w8⟩ := id hW
  have x2 : X 2 = nI K := b2.symm.trans w6
  obtain ⟨n, en1, en2, hs⟩ := hS.out
  obtain ⟨df, e1, e2⟩ := c_find hC hs w2 (Y 9)
  obtain ⟨g, f, k1, k2, k3⟩ := m_lay hM hs w2 w6 (V 10) (V 11)
  generalize hpp : okq fl lo N K n (fun i => (Y 7 i).toNatClampNeg) (Y 8) = p at e1 e2 k1 k3
  have hcl := cnb_le p 100
  by_cases hc : cnb p 100 ≤ 1
  · refine ⟨(-9, nI (cnb p 100), df, Y 10, Y 11), (-9, g, f), ?_, ?_, rfl, ?_⟩
    · rw [f_Ye_look, en1, x2, e1, z_obs, if_pos (show nI (cnb p 100) ≤ (1 : Int32) from nI_le (b := 1) hc (by decide))]
    · rw [f_Mo_look, en2, k1, z_obs, if_neg (show ¬ (2 : Int32) ≤ nI (cnb p 100) from nI_ge (b := 2) (by omega) (by decide))]
    · exact ⟨⟨hB, hV⟩, hT, hH, hl0, hS, hI⟩
  · have hdf : ∀ j, j < cnb p 100 → df j = nI (df j).toNatClampNeg ∧ (df j).toNatClampNeg ≤ 99 := by
      intro j hj
      obtain ⟨i, i1, i2, i3⟩ := cnb_kth p j 100 hj
      have := e2 i i1 i2
      rw [i3] at this
      rw [this, nI_clamp (by omega)]
      exact ⟨rfl, by omega⟩
    have hd : ∀ q, q < 100 → p q = true → (fun j => (df j).toNatClampNeg) (cnb p q) = q := by
      intro q hq ho
      show (df (cnb p q)).toNatClampNeg = q
      rw [e2 q hq ho, nI_clamp (by omega)]
    obtain ⟨B, L, b, vol', tab', s1, s2⟩ := look_start (d := fun j => (df j).toNatClampNeg) hC w2 hdf hd k3 k2 (nI (cnb p 100)) (Y 10) (Y 11)
    refine ⟨(B, nI (cnb p 100), df, vol', tab'), (B, g, f), ?_, ?_, rfl, ?_⟩
    · rw [f_Ye_look, en1, x2, e1, z_obs, if_neg (show ¬ nI (cnb p 100) ≤ (1 : Int32) from nI_ge (a := 1) (by omega) (by omega)), s1]; rfl
    · rw [f_Mo_look, en2, k1, z_obs, if_pos (show (2 : Int32) ≤ nI (cnb p 100) from nI_le (a := 2) (by omega) (by omega)), s2]; rfl
    · exact ⟨⟨hB, hV⟩, hT, hH, hl0, hS, hI⟩
