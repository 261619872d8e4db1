/-! ===== periods pass ===== -/
def r5 (r : Nat → Int32) (a b c : Int32) (v' : Nat) : Nat → Int32 := upd (upd (upd (upd (upd r 27 (r 27 + a)) 28 (r 28 + b)) 29 (r 29 + c)) 26 (nI v')) 25 (r 25 + 1)
theorem row5 {per dr cap tim vol fai lac spi : Int32} {inf los r : Nat → Int32} {N D K T v : Nat} {fl lo : Nat → Nat} (hB : RowB per dr cap tim vol fai lac spi inf los r) (hM : MW r N fl lo) (hW : PW r D K T v) (hT : T < 999) {v' : Nat} (hv : v' ≤ K) (a b c : Int32) :
    RowB per dr cap (tim + 1) (nI v') (fai + a) (lac + b) (spi + c) inf los (r5 r a b c v') ∧ MW (r5 r a b c v') N fl lo ∧ PW (r5 r a b c v') D K (T + 1) v' := by
  obtain ⟨b0, b1, b2, b3, b4, b5, b6, b7, bi, bl⟩ := hB
  obtain ⟨w1, w2, w3, w4, w5, w6, w7, w8⟩ := hW
  refine ⟨⟨b0, b1, b2, ?_, rfl, ?_, ?_, ?_, fun i hi => ?_, fun i hi => ?_⟩, ((((hM.upd (by omega) _).upd (by omega) _).upd (by omega) _).upd (by omega) _).upd (by omega) _, w1, w2, by omega, hv, w5, w6, ?_, rfl⟩
  · show r 25 + 1 = tim + 1
    rw [b3]
  · show r 27 + a = fai + a
    rw [b5]
  · show r 28 + b = lac + b
    rw [b6]
  · show r 29 + c = spi + c
    rw [b7]
  · rw [r5, upd_ne (by omega), upd_ne (by omega), upd_ne (by omega), upd_ne (by omega), upd_ne (by omega)]; exact bi i hi
  · rw [r5, upd_ne (by omega), upd_ne (by omega), upd_ne (by omega), upd_ne (by omega), upd_ne (by omega)]; exact bl i hi
  · show r 25 + 1 = nI (T + 1)
    rw [w7, nI_1]
theorem pass_both {per dr cap tim vol fai lac spi : Int32} {inf los r : Nat → Int32} {N D K T v : Nat} {fl lo : Nat → Nat} (hB : RowB per dr cap tim vol fai lac spi inf los r) (hM : MW r N fl lo) (hW : PW r D K T v) (hT : T < 999) : ∃ d t' v' f' l' s' r', f_Ba_pass per dr cap tim vol fai lac spi inf los = some (t', v', f', l', s') ∧ f_Mo_passOne r = some (d, r') ∧ RowB per dr cap t' v' f' l' s' inf los r' ∧ MW r' N fl lo ∧ (∃ v2, PW r' D K (T + 1) v2) ∧ f' = fai + d := by
  have hC := hB.cw hM
  obtain ⟨b0, b1, b2, b3, b4, b5, b6, b7, bi, bl⟩ := id hB
  obtain ⟨w1, w2, w3, w4, w5, w6, w7, w8⟩ := id hW
  have hr := hM.rng T (v := v) (d := D) (by omega) w1
  have hlev : f_Ba_levelBehind per inf los tim vol dr = some (iI ((v : Int) + fl (T % N) - lo (v / 100) - D)) := by
    rw [← b3, ← b4, ← b1, w5, w7, w8]; exact c_level hC (by omega) (by omega) D
  have e13 : (13 : Int32).toNatClampNeg = 13 := rfl
  have e14 : (14 : Int32).toNatClampNeg = 14 := rfl
  have e25 : (25 : Int32).toNatClampNeg = 25 := rfl
  have e26 : (26 : Int32).toNatClampNeg = 26 := rfl
  have e27 : (27 : Int32).toNatClampNeg = 27 := rfl
  have e28 : (28 : Int32).toNatClampNeg = 28 := rfl
  have e29 : (29 : Int32).toNatClampNeg = 29 := rfl
  have hmo : f_Mo_passOne r = f_Mo_passOne r := rfl
  rw (occs := [2]) [f_Mo_passOne] at hmo
  rw [if_neg (by decide), if_neg (by decide), e25, w7, m_flow hM (by omega), z_obs, if_neg (by decide), e26, w8, e13, w5, m_raw hM (by omega), z_obs, if_neg (by decide), e27, e28, e29, e14] at hmo
  have hcap : cap = nI K := b2.symm.trans w6
  generalize hx : (v : Int) + fl (T % N) - lo (v / 100) - D = x at hr hlev hmo
  have hstp : stp fl lo N D K T v = hl x K := by rw [stp, hx]
  rw [f_Ba_pass, hlev, z_obs]
  have u14 : ∀ a b : Int32, upd (upd r 27 a) 28 b 14 = r 14 := fun _ _ => rfl
  have u14' : ∀ a b c : Int32, upd (upd (upd r 27 a) 28 b) 29 c 14 = r 14 := fun _ _ _ => rfl
  by_cases h0 : x < 0
  · have c1 : ¬ (0 : Int32) ≤ iI x := fun q => absurd ((iI_pos0 hr.1 hr.2).mp q) (by omega)
    have c2 : iI x ≤ nI K := (iI_leK hr.1 hr.2 (by omega)).mpr (by omega)
    rw [if_neg c1, if_neg (by decide), if_neg (by decide), if_neg (by decide), u14, w6, if_pos c2, u14', w6, m_kept hr.1 hr.2 w2, z_obs] at hmo
    obtain ⟨g1, g2, g3⟩ := row5 hB hM hW hT (v' := hl x K) (hl_le _ _) 1 (-iI x) 0
    have hmo' : f_Mo_passOne r = some (1, r5 r 1 (-iI x) 0 (hl x K)) := hmo
    refine ⟨1, tim + 1, nI (hl x K), fai + 1, lac - iI x, spi, _, ?_, hmo', ?_, g2, ⟨_, g3⟩, ?_⟩
    · rw [if_neg c1, hcap, if_pos c2, c_held hr.1 hr.2 w2]; rfl
    · rw [sub_neg_i]
      have := g1
      rw [Int32.add_zero spi] at this
      exact this
    · rfl
  · have c1 : (0 : Int32) ≤ iI x := (iI_pos0 hr.1 hr.2).mpr (by omega)
    by_cases hk : x ≤ K
    · have c2 : iI x ≤ nI K := (iI_leK hr.1 hr.2 (by omega)).mpr hk
      rw [if_pos c1, if_neg (by decide), if_neg (by decide), if_neg (by decide), u14, w6, if_pos c2, u14', w6, m_kept hr.1 hr.2 w2, z_obs] at hmo
      obtain ⟨g1, g2, g3⟩ := row5 hB hM hW hT (v' := hl x K) (hl_le _ _) 0 0 0
      have hmo' : f_Mo_passOne r = some (0, r5 r 0 0 0 (hl x K)) := hmo
      refine ⟨0, tim + 1, nI (hl x K), fai, lac, spi, _, ?_, hmo', ?_, g2, ⟨_, g3⟩, ?_⟩
      · rw [if_pos c1, hcap, if_pos c2, c_held hr.1 hr.2 w2]; rfl
      · have := g1
        rw [Int32.add_zero spi, Int32.add_zero fai, Int32.add_zero lac] at this
        exact this
      · rw [Int32.add_zero]
    · have c2 : ¬ iI x ≤ nI K := fun q => hk ((iI_leK hr.1 hr.2 (by omega)).mp q)
      rw [if_pos c1, if_neg (by decide), if_neg (by decide), if_neg (by decide), u14, w6, if_neg c2, u14', w6, m_kept hr.1 hr.2 w2, z_obs] at hmo
      obtain ⟨g1, g2, g3⟩ := row5 hB hM hW hT (v' := hl x K) (hl_le _ _) 0 0 (iI x - nI K)
      have hmo' : f_Mo_passOne r = some (0, r5 r 0 0 (iI x - nI K) (hl x K)) := hmo
      refine ⟨0, tim + 1, nI (hl x K), fai, lac, spi + (iI x - nI K), _, ?_, hmo', ?_, g2, ⟨_, g3⟩, ?_⟩
      · rw [if_pos c1, hcap, if_neg c2, c_held hr.1 hr.2 w2]; rfl
      · have := g1
        rw [Int32.add_zero fai, Int32.add_zero lac] at this
        exact this
      · rw [Int32.add_zero]
theorem passes_both {per dr cap : Int32} {inf los : Nat → Int32} {N D K P : Nat} {fl lo : Nat → Nat} (hP : P ≤ 99) (fai0 : Int32) : ∀ (k n i : Nat) (tim vol fai lac spi c : Int32) (r : Nat → Int32) (T v : Nat), RowB per dr cap tim vol fai lac spi inf los r → MW r N fl lo → PW r D K T v → i + k = P → k < n → T + k ≤ 999 → fai = fai0 + c → ∃ t' v' f' l' s' c' r', f_Ye_passes_L51 per dr cap inf los (nI P) n (nI i) tim vol fai lac spi = some (nI P, t', v', f', l', s') ∧ f_Mo_passes_L38 (nI P) n c (nI i) r = some (c', nI P, r') ∧ RowB per dr cap t' v' f' l' s' inf los r' ∧ RowV r' ∧ f' = fai0 + c' := by
  intro k
  induction k with
  | zero =>
    intro n i tim vol fai lac spi c r T v hB hM hW hi hn hT hf
    obtain ⟨m, rfl⟩ : ∃ m, n = m + 1 := ⟨n - 1, by omega⟩
    obtain rfl : i = P := by omega
    rw [f_Ye_passes_L51_s, if_pos (nI_le (Nat.le_refl _) (by omega)), f_Mo_passes_L38_s, if_pos (nI_le (Nat.le_refl _) (by omega))]
    exact ⟨_, _, _, _, _, _, _, rfl, rfl, hB, RowV.mk hM hW, hf⟩
  | succ k ih =>
    intro n i tim vol fai lac spi c r T v hB hM hW hi hn hT hf
    obtain ⟨m, rfl⟩ : ∃ m, n = m + 1 := ⟨n - 1, by omega⟩
    obtain ⟨d, t', v', f', l', s', r', ey, em, hB', hM', ⟨v2, hW'⟩, hf'⟩ := pass_both hB hM hW (by omega)
    rw [f_Ye_passes_L51_s, if_neg (nI_ge (by omega) (by omega)), f_Mo_passes_L38_s, if_neg (nI_ge (by omega) (by omega)), ey, z_obs, em, z_obs, nI_1]
    exact ih m (i + 1) t' v' f' l' s' (c + d) r' (T + 1) v2 hB' hM' hW' (by omega) (by omega) (by omega) (by rw [hf', hf, Int32.add_assoc])
theorem pl_passes (X : Nat → Int32) (Y ri rl rf : Nat → Nat → Int32) (im : Nat → Option Nat) (vi vl vf : Nat → Nat → Int32) (U : Nat → Int32) (V : Nat → Nat → Int32) (Z : Nat → Int64) (p0 : Int32) (h : Rel X Y ri rl rf im vi vl vf U V Z) : ∃ (out : Int32 × Int32 × Int32 × Int32 × Int32 × Int32 × Int32 × Int32 × (Nat → Nat → Int32) × (Nat → Nat → Int32) × (Nat → Nat → Int32)) (mout : Int32 × Int32 × (Nat → Int32) × (Nat → Int32)), f_Ye_passes (X 0) (X 1) (X 2) (X 3) (X 4) (X 5) (X 6) (X 7) (Y 0) (Y 1) (X 21) (X 22) ri rl rf p0 = some out ∧ f_Mo_passes (U 0) (V 0) (V 2) p0 = some mout ∧ out.1 = mout.1 ∧ Rel (va_up (va_up (va_up (va_up (va_up (va_up (va_up X 3 out.2.1) 4 out.2.2.1) 5 out.2.2.2.1) 6 out.2.2.2.2.1) 7 out.2.2.2.2.2.1) 21 out.2.2.2.2.2.2.1) 22 out.2.2.2.2.2.2.2.1) Y out.2.2.2.2.2.2.2.2.1 out.2.2.2.2.2.2.2.2.2.1 out.2.2.2.2.2.2.2.2.2.2 im vi vl vf (va_up U 0 mout.2.1) (va_up (va_up V 0 mout.2.2.1) 2 mout.2.2.2) Z := by
  have h0 := h
  obtain ⟨⟨hB, hV⟩, hT, hH, hl0, hS, hI⟩ := h
  obtain ⟨N, fl, lo, D, K, T, v, hM, hW⟩ := hV.out
  obtain ⟨b0, b1, b2, b3, b4, b5, b6, b7, bi, bl⟩ := id hB
  obtain ⟨w1, w2, w3, w4, w5, w6, w7, w8⟩ := id hW
  have e25 : (25 : Int32).toNatClampNeg = 25 := rfl
  by_cases hp : 1 ≤ p0 ∧ p0 ≤ 99
  · obtain ⟨P, hP, rfl⟩ := nI_rng 99 (by decide) ⟨Int32.le_trans (by decide) hp.1, hp.2⟩
    by_cases ht : T + P ≤ 999
    · have ct : nI T + nI P ≤ (999 : Int32) := by rw [nI_add]; exact nI_le (b := 999) ht (by decide)
      obtain ⟨oy, om, ey, em, hH'⟩ := his_push hH hB hV
      obtain ⟨t', v', f', l', s', c', r', ly, lm, hB', hV', hf'⟩ := passes_both (P := P) hP (X 5) P FU 0 (X 3) (X 4) (X 5) (X 6) (X 7) 0 (V 0) T v hB hM hW (by omega) (by unfold FU; omega) (by omega) (by rw [Int32.add_zero])
      refine ⟨(f' - X 5, t', v', f', l', s', oy.1, oy.2.1, oy.2.2.1, oy.2.2.2.1, oy.2.2.2.2), (c', om.1, r', om.2), ?_, ?_, ?_, ?_⟩
      · rw [f_Ye_passes, isOut, if_pos hp, z_obs, if_pos rfl, if_pos (by rw [← b3, w7]; exact ct), ey, z_obs, show (0 : Int32) = nI 0 from rfl, ly]; rfl
      · rw [f_Mo_passes, mIn, if_pos hp, z_obs, if_neg (by decide), if_neg (by decide), e25, if_pos (by rw [w7]; exact ct), em, z_obs]
        have lm' : f_Mo_passes_L38 (nI P) FU (0 : Int32) (0 : Int32) (V 0) = some (c', nI P, r') := lm
        rw [lm']; rfl
      · show f' - X 5 = c'
        rw [hf', add_sub_i]
      · exact ⟨⟨hB', hV'⟩, hT, hH', hl0, hS, hI⟩
    · have ct : ¬ nI T + nI P ≤ (999 : Int32) := by rw [nI_add]; exact nI_ge (a := 999) (by omega) (by omega)
      refine ⟨(-2, X 3, X 4, X 5, X 6, X 7, X 21, X 22, ri, rl, rf), (-2, U 0, V 0, V 2), ?_, ?_, rfl, ?_⟩
      · rw [f_Ye_passes, isOut, if_pos hp, z_obs, if_pos rfl, if_neg (by rw [← b3, w7]; exact ct)]
      · rw [f_Mo_passes, mIn, if_pos hp, z_obs, if_neg (by decide), if_neg (by decide), e25, if_neg (by rw [w7]; exact ct)]
      · simp only [vu_self]; exact h0
  · refine ⟨(-1, X 3, X 4, X 5, X 6, X 7, X 21, X 22, ri, rl, rf), (-1, U 0, V 0, V 2), ?_, ?_, rfl, ?_⟩
    · rw [f_Ye_passes, isOut, if_neg hp]; rfl
    · rw [f_Mo_passes, mIn, if_neg hp]; rfl
    · simp only [vu_self]; exact h0
theorem m_begin_L : ∀ k n i (g : Nat → Int32), k < n → i + k = 30 → (∀ j, j < i → g j = if j = 0 then 1 else 0) → ∃ g', f_Mo_begin_L2 n (nI i) g = some (nI 30, g') ∧ ∀ j, j < 30 → g' j = if j = 0 then 1 else 0 := by
  intro k
  induction k with
  | zero =>
    intro n i g hn hi hg
    obtain ⟨m, rfl⟩ : ∃ m, n = m + 1 := ⟨n - 1, by omega⟩
    obtain rfl : i = 30 := by omega
    exact ⟨g, by rw [f_Mo_begin_L2_s, if_pos (show (30 : Int32) ≤ nI 30 by decide)], hg⟩
  | succ k ih =>
    intro n i g hn hi hg
    obtain ⟨m, rfl⟩ : ∃ m, n = m + 1 := ⟨n - 1, by omega⟩
    rw [f_Mo_begin_L2_s, if_neg (show ¬ (30 : Int32) ≤ nI i from nI_ge (b := 30) (by omega) (by decide))]
    have key : ∀ x : Int32, (x = if i = 0 then 1 else 0) → ∀ j, j < i + 1 → upd g i x j = if j = 0 then 1 else 0 := by
      intro x hx j hj
      rw [upd_eq]
      by_cases hji : j = i
      · subst hji; rw [if_pos rfl, hx]
      · rw [if_neg hji]; exact hg j (by omega)
    by_cases h0 : i = 0
    · rw [if_pos (show nI i = (0 : Int32) by rw [h0]; rfl), if_neg (ixn (by omega) (by decide)), nI_clamp (by omega), nI_1]
      exact ih m (i + 1) _ (by omega) (by omega) (key 1 (by rw [if_pos h0]))
    · rw [if_neg (show ¬ nI i = (0 : Int32) from fun z => h0 ((nI_eq (b := 0) (by omega) (by decide)).mp z)), if_neg (ixn (by omega) (by decide)), nI_clamp (by omega), nI_1]
      exact ih m (i + 1) _ (by omega) (by omega) (key 0 (by rw [if_neg h0]))
theorem m_begin (g : Nat → Int32) : ∃ g', f_Mo_begin g = some g' ∧ ∀ j, j < 30 → g' j = if j = 0 then 1 else 0 := by
  obtain ⟨g', h1, h2⟩ := m_begin_L 30 FU 0 g (by decide) (by omega) (fun j hj => absurd hj (by omega))
  refine ⟨g', ?_, h2⟩
  have h1' : f_Mo_begin_L2 FU (0 : Int32) g = some (nI 30, g') := h1
  rw [f_Mo_begin, h1']; rfl
theorem pl_init : ∃ (z13 : Nat → Int32) (z14 : Nat → Int32), f_Mo_begin (fun _ => 0) = some z13 ∧ f_Mo_bring 30 z13 (0 : Int32) 30 (fun _ => 0) (0 : Int32) = some z14 ∧ Rel (fun k => ([(1 : Int32), (0 : Int32), (0 : Int32), (0 : Int32), (0 : Int32), (0 : Int32), (0 : Int32), (0 : Int32), (1 : Int32), (0 : Int32), (0 : Int32), (0 : Int32), (0 : Int32), (0 : Int32), (0 : Int32), (0 : Int32), (0 : Int32), (0 : Int32), (0 : Int32), (0 : Int32), (0 : Int32), (0 : Int32), (0 : Int32), (1 : Int32), (0 : Int32), (1 : Int32), (0 : Int32), (1 : Int32), (0 : Int32), (0 : Int32), (0 : Int32), (0 : Int32), (0 : Int32), (0 : Int32), (1 : Int32)] : List Int32).getD k 0) (fun _ _ => 0) (fun _ _ => 0) (fun _ _ => 0) (fun _ k => match k with | 0 => 1 | _ => 0) (fun _ => none) (fun _ _ => 0) (fun _ _ => 0) (fun _ _ => 0) (fun _ => 0) (fun k => match k with | 0 => z14 | 1 => z13 | _ => fun _ => 0) (fun _ => 0) := by
  obtain ⟨g, hg, hv⟩ := m_begin (fun _ => 0)
  have hb := m_bring 30 g 0 30 (fun _ => 0) 0 (by decide) (by decide) (by decide) (by decide)
  have er : ∀ j, j < 30 → va_cpy g (fun _ => 0) 0 0 30 j = if j = 0 then 1 else 0 := fun j hj => by
    rw [pk_cpy_in (by omega) (by omega), show 0 + (j - 0) = j by omega]; exact hv j hj
  refine ⟨g, va_cpy g (fun _ => 0) 0 0 30, hg, hb, ⟨⟨?_, ?_⟩, ⟨0, by omega, rfl, rfl, fun i hi => absurd hi (by omega)⟩, ⟨0, 0, by omega, by omega, rfl, rfl, rfl, fun j hj => absurd hj (by omega)⟩, rfl, ⟨0, by omega, rfl, rfl, fun i hi => absurd hi (by omega)⟩, fun k hk => rfl⟩⟩
  · refine ⟨er 0 (by decide), er 13 (by decide), er 14 (by decide), er 25 (by decide), er 26 (by decide), er 27 (by decide), er 28 (by decide), er 29 (by decide), fun i hi => ?_, fun i hi => ?_⟩
    · exact (er (1 + i) (by omega)).trans (if_neg (by omega))
    · exact (er (15 + i) (by omega)).trans (if_neg (by omega))
  · refine RowV.mk (N := 1) (fl := fun _ => 0) (lo := fun _ => 0) (D := 0) (K := 0) (T := 0) (v := 0) ⟨by omega, by omega, er 0 (by decide), fun i hi => ⟨Nat.zero_le _, (er (1 + i) (by omega)).trans (if_neg (by omega))⟩, fun i hi => ⟨Nat.zero_le _, (er (15 + i) (by omega)).trans (if_neg (by omega))⟩⟩ ⟨by omega, by omega, by omega, by omega, er 13 (by decide), er 14 (by decide), er 25 (by decide), er 26 (by decide)⟩
