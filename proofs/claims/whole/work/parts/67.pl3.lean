/-! ===== deeds ===== -/
theorem m_bringA (n1 : Nat) (f : Nat → Int32) (n2 : Nat) (g : Nat → Int32) (b : Nat) (ha : 0 + 30 ≤ n1) (hb : b + 30 ≤ n2) (h1 : n1 < 10000) (h2 : n2 < 10000) : f_Mo_bring n1 f (0 : Int32) n2 g (nI b) = some (va_cpy f g 0 b 30) := m_bring n1 f 0 n2 g b ha hb h1 h2
theorem m_bringB (n1 : Nat) (f : Nat → Int32) (a n2 : Nat) (g : Nat → Int32) (ha : a + 30 ≤ n1) (hb : 0 + 30 ≤ n2) (h1 : n1 < 10000) (h2 : n2 < 10000) : f_Mo_bring n1 f (nI a) n2 g (0 : Int32) = some (va_cpy f g a 0 30) := m_bring n1 f a n2 g 0 ha hb h1 h2
theorem upd_ne {f : Nat → Int32} {k j : Nat} {x : Int32} (h : j ≠ k) : upd f k x j = f j := pk_un h
theorem upd_at (f : Nat → Int32) (k : Nat) (x : Int32) : upd f k x k = x := pk_us
theorem MW.upd {r : Nat → Int32} {N : Nat} {fl lo : Nat → Nat} (h : MW r N fl lo) {k : Nat} (hk : k = 13 ∨ k = 14 ∨ 25 ≤ k) (x : Int32) : MW (upd r k x) N fl lo := by
  obtain ⟨h1, h2, h3, hf, hl⟩ := h
  refine ⟨h1, h2, ?_, fun i hi => ⟨(hf i hi).1, ?_⟩, fun i hi => ⟨(hl i hi).1, ?_⟩⟩
  · rw [upd_ne (by omega)]; exact h3
  · rw [upd_ne (by omega)]; exact (hf i hi).2
  · rw [upd_ne (by omega)]; exact (hl i hi).2
theorem pl_drafts (X : Nat → Int32) (Y ri rl rf : Nat → Nat → Int32) (im : Nat → Option Nat) (vi vl vf : Nat → Nat → Int32) (U : Nat → Int32) (V : Nat → Nat → Int32) (Z : Nat → Int64) (p0 : Int32) (h : Rel X Y ri rl rf im vi vl vf U V Z) : ∃ (out : Int32 × Int32 × Int32 × Int32 × (Nat → Nat → Int32) × (Nat → Nat → Int32) × (Nat → Nat → Int32)) (mout : Int32 × Int32 × (Nat → Int32) × (Nat → Int32)), f_Ye_drafts (X 0) (X 1) (X 2) (X 3) (X 4) (X 5) (X 6) (X 7) (Y 0) (Y 1) (X 21) (X 22) ri rl rf p0 = some out ∧ f_Mo_drafts (U 0) (V 0) (V 2) p0 = some mout ∧ out.1 = mout.1 ∧ Rel (va_up (va_up (va_up X 1 out.2.1) 21 out.2.2.1) 22 out.2.2.2.1) Y out.2.2.2.2.1 out.2.2.2.2.2.1 out.2.2.2.2.2.2 im vi vl vf (va_up U 0 mout.2.1) (va_up (va_up V 0 mout.2.2.1) 2 mout.2.2.2) Z := by
  have h0 := h
  obtain ⟨⟨hB, hV⟩, hT, hH, hl0, hS, hI⟩ := h
  obtain ⟨N, fl, lo, D, K, T, v, hM, hW⟩ := hV.out
  obtain ⟨b0, b1, b2, b3, b4, b5, b6, b7, bi, bl⟩ := id hB
  obtain ⟨w1, w2, w3, w4, w5, w6, w7, w8⟩ := id hW
  have e13 : (13 : Int32).toNatClampNeg = 13 := rfl
  by_cases hp : 0 ≤ p0 ∧ p0 ≤ 99
  · by_cases he : X 1 = p0
    · refine ⟨(-2, X 1, X 21, X 22, ri, rl, rf), (-2, U 0, V 0, V 2), ?_, ?_, rfl, ?_⟩
      · rw [f_Ye_drafts, isOut, if_pos hp, z_obs, if_pos rfl, if_pos he]
      · rw [f_Mo_drafts, mIn, if_pos hp, z_obs, if_neg (by decide), if_neg (by decide), e13, if_pos (b1.trans he)]
      · simp only [vu_self]; exact h0
    · obtain ⟨oy, om, ey, em, hH'⟩ := his_push hH hB hV
      obtain ⟨d, hd, rfl⟩ := nI_rng 99 (by decide) hp
      refine ⟨(X 1, nI d, oy.1, oy.2.1, oy.2.2.1, oy.2.2.2.1, oy.2.2.2.2), (V 0 13, om.1, upd (V 0) 13 (nI d), om.2), ?_, ?_, b1.symm, ?_⟩
      · rw [f_Ye_drafts, isOut, if_pos hp, z_obs, if_pos rfl, if_neg he, ey]; rfl
      · rw [f_Mo_drafts, mIn, if_pos hp, z_obs, if_neg (by decide), if_neg (by decide), e13, if_neg (fun q => he (b1.symm.trans q)), em]; rfl
      · refine ⟨⟨⟨b0, rfl, b2, b3, b4, b5, b6, b7, fun i hi => ?_, fun i hi => ?_⟩, RowV.mk (hM.upd (by omega) _) ⟨hd, w2, w3, w4, rfl, w6, w7, w8⟩⟩, hT, hH', hl0, hS, hI⟩
        · show upd (V 0) 13 _ (1 + i) = Y 0 i
          rw [upd_ne (by omega)]; exact bi i hi
        · show upd (V 0) 13 _ (15 + i) = Y 1 i
          rw [upd_ne (by omega)]; exact bl i hi
  · refine ⟨(-1, X 1, X 21, X 22, ri, rl, rf), (-1, U 0, V 0, V 2), ?_, ?_, rfl, ?_⟩
    · rw [f_Ye_drafts, isOut, if_neg hp]; rfl
    · rw [f_Mo_drafts, mIn, if_neg hp]; rfl
    · simp only [vu_self]; exact h0
theorem pl_caps (X : Nat → Int32) (Y ri rl rf : Nat → Nat → Int32) (im : Nat → Option Nat) (vi vl vf : Nat → Nat → Int32) (U : Nat → Int32) (V : Nat → Nat → Int32) (Z : Nat → Int64) (p0 : Int32) (h : Rel X Y ri rl rf im vi vl vf U V Z) : ∃ (out : Int32 × Int32 × Int32 × Int32 × Int32 × Int32 × (Nat → Nat → Int32) × (Nat → Nat → Int32) × (Nat → Nat → Int32)) (mout : Int32 × Int32 × (Nat → Int32) × (Nat → Int32)), f_Ye_caps (X 0) (X 1) (X 2) (X 3) (X 4) (X 5) (X 6) (X 7) (Y 0) (Y 1) (X 21) (X 22) ri rl rf p0 = some out ∧ f_Mo_caps (U 0) (V 0) (V 2) p0 = some mout ∧ out.1 = mout.1 ∧ Rel (va_up (va_up (va_up (va_up (va_up X 2 out.2.1) 4 out.2.2.1) 7 out.2.2.2.1) 21 out.2.2.2.2.1) 22 out.2.2.2.2.2.1) Y out.2.2.2.2.2.2.1 out.2.2.2.2.2.2.2.1 out.2.2.2.2.2.2.2.2 im vi vl vf (va_up U 0 mout.2.1) (va_up (va_up V 0 mout.2.2.1) 2 mout.2.2.2) Z := by
  have h0 := h
  obtain ⟨⟨hB, hV⟩, hT, hH, hl0, hS, hI⟩ := h
  obtain ⟨N, fl, lo, D, K, T, v, hM, hW⟩ := hV.out
  obtain ⟨b0, b1, b2, b3, b4, b5, b6, b7, bi, bl⟩ := id hB
  obtain ⟨w1, w2, w3, w4, w5, w6, w7, w8⟩ := id hW
  have e14 : (14 : Int32).toNatClampNeg = 14 := rfl
  have e26 : (26 : Int32).toNatClampNeg = 26 := rfl
  have e29 : (29 : Int32).toNatClampNeg = 29 := rfl
  by_cases hp : 0 ≤ p0 ∧ p0 ≤ 999
  · by_cases he : X 2 = p0
    · refine ⟨(-2, X 2, X 4, X 7, X 21, X 22, ri, rl, rf), (-2, U 0, V 0, V 2), ?_, ?_, rfl, ?_⟩
      · rw [f_Ye_caps, isOut, if_pos hp, z_obs, if_pos rfl, if_pos he]
      · rw [f_Mo_caps, mIn, if_pos hp, z_obs, if_neg (by decide), if_neg (by decide), e14, if_pos (b2.trans he)]
      · simp only [vu_self]; exact h0
    · obtain ⟨oy, om, ey, em, hH'⟩ := his_push hH hB hV
      obtain ⟨d, hd, rfl⟩ := nI_rng 999 (by decide) hp
      have u26 : upd (V 0) 14 (nI d) 26 = V 0 26 := rfl
      have u29 : upd (V 0) 14 (nI d) 29 = V 0 29 := rfl
      by_cases hc : X 4 ≤ nI d
      · refine ⟨(X 2, nI d, X 4, X 7, oy.1, oy.2.1, oy.2.2.1, oy.2.2.2.1, oy.2.2.2.2), (V 0 14, om.1, upd (V 0) 14 (nI d), om.2), ?_, ?_, b2.symm, ?_⟩
        · rw [f_Ye_caps, isOut, if_pos hp, z_obs, if_pos rfl, if_neg he, ey, z_obs, f_Ba_changeCap, if_pos hc]; rfl
        · rw [f_Mo_caps, mIn, if_pos hp, z_obs, if_neg (by decide), if_neg (by decide), e14, if_neg (fun q => he (b2.symm.trans q)), em, z_obs, if_neg (by decide), e26, u26, if_pos (by rw [b4]; exact hc)]
        · have hvd : v ≤ d := by
            rw [← b4, w8] at hc
            exact (nI_leI (by omega) (by omega)).mp hc
          refine ⟨⟨⟨b0, b1, rfl, b3, b4, b5, b6, b7, fun i hi => ?_, fun i hi => ?_⟩, RowV.mk (hM.upd (by omega) _) ⟨w1, hd, w3, hvd, w5, rfl, w7, w8⟩⟩, hT, hH', hl0, hS, hI⟩
          · show upd (V 0) 14 _ (1 + i) = Y 0 i
            rw [upd_ne (by omega)]; exact bi i hi
          · show upd (V 0) 14 _ (15 + i) = Y 1 i
            rw [upd_ne (by omega)]; exact bl i hi
      · refine ⟨(X 2, nI d, nI d, X 7 + (X 4 - nI d), oy.1, oy.2.1, oy.2.2.1, oy.2.2.2.1, oy.2.2.2.2), (V 0 14, om.1, upd (upd (upd (V 0) 14 (nI d)) 29 (V 0 29 + (V 0 26 - nI d))) 26 (nI d), om.2), ?_, ?_, b2.symm, ?_⟩
        · rw [f_Ye_caps, isOut, if_pos hp, z_obs, if_pos rfl, if_neg he, ey, z_obs, f_Ba_changeCap, if_neg hc]; rfl
        · rw [f_Mo_caps, mIn, if_pos hp, z_obs, if_neg (by decide), if_neg (by decide), e14, if_neg (fun q => he (b2.symm.trans q)), em, z_obs, if_neg (by decide), e26, u26, if_neg (by rw [b4]; exact hc), if_neg (by decide), e29, u29]
        · refine ⟨⟨⟨b0, b1, rfl, b3, rfl, b5, b6, ?_, fun i hi => ?_, fun i hi => ?_⟩, RowV.mk (((hM.upd (by omega) _).upd (by omega) _).upd (by omega) _) ⟨w1, hd, w3, Nat.le_refl _, w5, rfl, w7, rfl⟩⟩, hT, hH', hl0, hS, hI⟩
          · show V 0 29 + (V 0 26 - nI d) = X 7 + (X 4 - nI d)
            rw [b7, b4]
          · show upd (upd (upd (V 0) 14 _) 29 _) 26 _ (1 + i) = Y 0 i
            rw [upd_ne (by omega), upd_ne (by omega), upd_ne (by omega)]; exact bi i hi
          · show upd (upd (upd (V 0) 14 _) 29 _) 26 _ (15 + i) = Y 1 i
            rw [upd_ne (by omega), upd_ne (by omega), upd_ne (by omega)]; exact bl i hi
  · refine ⟨(-1, X 2, X 4, X 7, X 21, X 22, ri, rl, rf), (-1, U 0, V 0, V 2), ?_, ?_, rfl, ?_⟩
    · rw [f_Ye_caps, isOut, if_neg hp]; rfl
    · rw [f_Mo_caps, mIn, if_neg hp]; rfl
    · simp only [vu_self]; exact h0
theorem pl_flows (X : Nat → Int32) (Y ri rl rf : Nat → Nat → Int32) (im : Nat → Option Nat) (vi vl vf : Nat → Nat → Int32) (U : Nat → Int32) (V : Nat → Nat → Int32) (Z : Nat → Int64) (p0 : Int32) (p1 : Int32) (h : Rel X Y ri rl rf im vi vl vf U V Z) : ∃ (out : Int32 × (Nat → Int32) × Int32 × Int32 × (Nat → Nat → Int32) × (Nat → Nat → Int32) × (Nat → Nat → Int32)) (mout : Int32 × Int32 × (Nat → Int32) × (Nat → Int32)), f_Ye_flows (X 0) (X 1) (X 2) (X 3) (X 4) (X 5) (X 6) (X 7) (Y 0) (Y 1) (X 21) (X 22) ri rl rf p0 p1 = some out ∧ f_Mo_flows (U 0) (V 0) (V 2) p0 p1 = some mout ∧ out.1 = mout.1 ∧ Rel (va_up (va_up X 21 out.2.2.1) 22 out.2.2.2.1) (va_up Y 0 out.2.1) out.2.2.2.2.1 out.2.2.2.2.2.1 out.2.2.2.2.2.2 im vi vl vf (va_up U 0 mout.2.1) (va_up (va_up V 0 mout.2.2.1) 2 mout.2.2.2) Z := by
  have h0 := h
  obtain ⟨⟨hB, hV⟩, hT, hH, hl0, hS, hI⟩ := h
  obtain ⟨N, fl, lo, D, K, T, v, hM, hW⟩ := hV.out
  have hC := hB.cw hM
  obtain ⟨n1, n2, eN, hf, -⟩ := id hC
  obtain ⟨-, -, eR, hfr, hlr⟩ := id hM
  obtain ⟨b0, b1, b2, b3, b4, b5, b6, b7, bi, bl⟩ := id hB
  obtain ⟨w1, w2, w3, w4, w5, w6, w7, w8⟩ := id hW
  by_cases hp : 0 ≤ p0 ∧ p0 ≤ nI (N - 1)
  · by_cases hq : 0 ≤ p1 ∧ p1 ≤ 99
    · obtain ⟨w, hw, rfl⟩ := nI_rng (N - 1) (by omega) hp
      obtain ⟨d, hd, rfl⟩ := nI_rng 99 (by decide) hq
      have hw12 : w < 12 := by omega
      have e1 : (1 : Int32) + nI w = nI (1 + w) := nI_add 1 w
      have ein : f_Ba_inflowOf (X 0) (Y 0) (nI w) = some (nI (fl w)) := by rw [c_inflow hC (by omega), Nat.mod_eq_of_lt (by omega)]
      by_cases he : nI (fl w) = nI d
      · refine ⟨(-2, Y 0, X 21, X 22, ri, rl, rf), (-2, U 0, V 0, V 2), ?_, ?_, rfl, ?_⟩
        · rw [f_Ye_flows, c_noPlace hC, if_pos hp, z_obs, if_pos rfl, isOut, if_pos hq, z_obs, if_pos rfl, ein, z_obs, if_pos he]
        · rw [f_Mo_flows, m_isPer hM, if_pos hp, z_obs, if_neg (by decide), mIn, if_pos hq, z_obs, if_neg (by decide), e1, if_neg (ixn (by omega) (by omega)), nI_clamp (by omega), (hfr w hw12).2, if_pos he]
        · simp only [vu_self]; exact h0
      · obtain ⟨oy, om, ey, em, hH'⟩ := his_push hH hB hV
        refine ⟨(nI (fl w), upd (Y 0) w (nI d), oy.1, oy.2.1, oy.2.2.1, oy.2.2.2.1, oy.2.2.2.2), (nI (fl w), om.1, upd (V 0) (1 + w) (nI d), om.2), ?_, ?_, rfl, ?_⟩
        · rw [f_Ye_flows, c_noPlace hC, if_pos hp, z_obs, if_pos rfl, isOut, if_pos hq, z_obs, if_pos rfl, ein, z_obs, if_neg he, ey, z_obs, f_Ba_changeInflow, c_noPlace hC, if_pos hp, z_obs, if_pos rfl, if_neg (ixn hw12 (by decide)), nI_clamp (by omega)]; rfl
        · rw [f_Mo_flows, m_isPer hM, if_pos hp, z_obs, if_neg (by decide), mIn, if_pos hq, z_obs, if_neg (by decide), e1, if_neg (ixn (by omega) (by omega)), nI_clamp (by omega), (hfr w hw12).2, if_neg he, em]; rfl
        · have hB2 : RowB (X 0) (X 1) (X 2) (X 3) (X 4) (X 5) (X 6) (X 7) (upd (Y 0) w (nI d)) (Y 1) (upd (V 0) (1 + w) (nI d)) := by
            refine ⟨?_, ?_, ?_, ?_, ?_, ?_, ?_, ?_, fun i hi => ?_, fun i hi => ?_⟩
            iterate 8 (rw [upd_ne (by omega)]; assumption)
            · by_cases hiw : i = w
              · subst hiw; rw [upd_at, upd_at]
              · rw [upd_ne (by omega), upd_ne hiw]; exact bi i hi
            · rw [upd_ne (by omega)]; exact bl i hi
          have hM2 : MW (upd (V 0) (1 + w) (nI d)) N (fun i => if i = w then d else fl i) lo := by
            refine ⟨n1, n2, ?_, fun i hi => ?_, fun i hi => ⟨(hlr i hi).1, ?_⟩⟩
            · rw [upd_ne (by omega)]; exact eR
            · show (if i = w then d else fl i) ≤ 99 ∧ upd (V 0) (1 + w) (nI d) (1 + i) = nI (if i = w then d else fl i)
              by_cases hiw : i = w
              · subst hiw; rw [upd_at, if_pos rfl]; exact ⟨hd, rfl⟩
              · rw [upd_ne (by omega), if_neg hiw]; exact hfr i hi
            · rw [upd_ne (by omega)]; exact (hlr i hi).2
          have hW2 : PW (upd (V 0) (1 + w) (nI d)) D K T v := by
            refine ⟨w1, w2, w3, w4, ?_, ?_, ?_, ?_⟩
            iterate 4 (rw [upd_ne (by omega)]; assumption)
          exact ⟨⟨hB2, RowV.mk hM2 hW2⟩, hT, hH', hl0, hS, hI⟩
    · refine ⟨(-1, Y 0, X 21, X 22, ri, rl, rf), (-1, U 0, V 0, V 2), ?_, ?_, rfl, ?_⟩
      · rw [f_Ye_flows, c_noPlace hC, if_pos hp, z_obs, if_pos rfl, isOut, if_neg hq]; rfl
      · rw [f_Mo_flows, m_isPer hM, if_pos hp, z_obs, if_neg (by decide), mIn, if_neg hq]; rfl
      · simp only [vu_self]; exact h0
  · refine ⟨(-1, Y 0, X 21, X 22, ri, rl, rf), (-1, U 0, V 0, V 2), ?_, ?_, rfl, ?_⟩
    · rw [f_Ye_flows, c_noPlace hC, if_neg hp]; rfl
    · rw [f_Mo_flows, m_isPer hM, if_neg hp]; rfl
    · simp only [vu_self]; exact h0
theorem pl_undo (X : Nat → Int32) (Y ri rl rf : Nat → Nat → Int32) (im : Nat → Option Nat) (vi vl vf : Nat → Nat → Int32) (U : Nat → Int32) (V : Nat → Nat → Int32) (Z : Nat → Int64) (h : Rel X Y ri rl rf im vi vl vf U V Z) : ∃ (out : Int32 × Int32 × Int32 × Int32 × Int32 × Int32 × Int32 × Int32 × Int32 × (Nat → Int32) × (Nat → Int32) × Int32 × Int32) (mout : Int32 × Int32 × (Nat → Int32)), f_Ye_undo (X 0) (X 1) (X 2) (X 3) (X 4) (X 5) (X 6) (X 7) (Y 0) (Y 1) (X 21) (X 22) ri rl rf = some out ∧ f_Mo_undo (U 0) (V 0) (V 2) = some mout ∧ out.1 = mout.1 ∧ Rel (va_up (va_up (va_up (va_up (va_up (va_up (va_up (va_up (va_up (va_up X 0 out.2.1) 1 out.2.2.1) 2 out.2.2.2.1) 3 out.2.2.2.2.1) 4 out.2.2.2.2.2.1) 5 out.2.2.2.2.2.2.1) 6 out.2.2.2.2.2.2.2.1) 7 out.2.2.2.2.2.2.2.2.1) 21 out.2.2.2.2.2.2.2.2.2.2.2.1) 22 out.2.2.2.2.2.2.2.2.2.2.2.2) (va_up (va_up Y 0 out.2.2.2.2.2.2.2.2.2.1) 1 out.2.2.2.2.2.2.2.2.2.2.1) ri rl rf im vi vl vf (va_up U 0 mout.2.1) (va_up V 0 mout.2.2) Z := by
  have h0 := h
  obtain ⟨⟨hB, hV⟩, hT, hH, hl0, hS, hI⟩ := h
  obtain ⟨x, k, hx, hk, e1, e2, e3, hrow⟩ := id hH
  by_cases hk0 : k = 0
  · subst hk0
    refine ⟨(-2, X 0, X 1, X 2, X 3, X 4, X 5, X 6, X 7, Y 0, Y 1, X 21, X 22), (-2, U 0, V 0), ?_, ?_, rfl, ?_⟩
    · rw [f_Ye_undo, f_Hi_restore, if_neg (show ¬ (1 : Int32) ≤ X 22 by rw [e2]; decide)]; rfl
    · rw [f_Mo_undo, if_pos (show U 0 = (0 : Int32) from e3)]
    · simp only [vu_self]; exact h0
  · obtain ⟨q, hq, hBq, hVq⟩ := hrow (k - 1) (by omega)
    have hq' : q = (x + 5) % 6 := by omega
    have c1 : (1 : Int32) ≤ nI k := nI_le (a := 1) (by omega) (by omega)
    have eix : (((nI x + (6 : Int32)) - (1 : Int32)) - ((nI x + (6 : Int32)) - (1 : Int32)) / (6 : Int32) * (6 : Int32)) = nI q := by
      rw [show nI x + (6 : Int32) = nI (x + 6) from nI_add x 6, show nI (x + 6) - (1 : Int32) = nI (x + 5) from pk_sub (a := x + 6) (b := 1) (by omega), rem6 (by omega), hq']
    have ecl : (nI q).toNatClampNeg = q := nI_clamp (by omega)
    have ekm : nI k - (1 : Int32) = nI (k - 1) := pk_sub (b := 1) (by omega)
    have e30 : (30 : Int32) * nI (k - 1) = nI (30 * (k - 1)) := pk_mul 30 (k - 1)
    have hre : f_Hi_restore (X 21) (X 22) ri rl rf (X 0) (X 1) (X 2) (X 3) (X 4) (X 5) (X 6) (X 7) (Y 0) (Y 1) = some ((1 : Int32), nI q, nI (k - 1), rf q 0, rf q 1, rf q 2, rf q 3, rf q 4, rf q 5, rf q 6, rf q 7, (va_cpy (ri q) (Y 0) (0 : Int32).toNatClampNeg (0 : Int32).toNatClampNeg (12 : Int32).toNatClampNeg), (va_cpy (rl q) (Y 1) (0 : Int32).toNatClampNeg (0 : Int32).toNatClampNeg (10 : Int32).toNatClampNeg)) := by
      rw [e1, e2, f_Hi_restore, if_pos c1, if_neg (ixn hx (by decide)), eix, ecl, ekm]
    have er : ∀ i, i < 30 → va_cpy (V 2) (V 0) (30 * (k - 1)) 0 30 i = rowAt (V 2) (30 * (k - 1)) i := fun i hi => by
      rw [pk_cpy_in (by omega) (by omega), Nat.sub_zero]; rfl
    refine ⟨(nI (k - 1), rf q 0, rf q 1, rf q 2, rf q 3, rf q 4, rf q 5, rf q 6, rf q 7, (va_cpy (ri q) (Y 0) (0 : Int32).toNatClampNeg (0 : Int32).toNatClampNeg (12 : Int32).toNatClampNeg), (va_cpy (rl q) (Y 1) (0 : Int32).toNatClampNeg (0 : Int32).toNatClampNeg (10 : Int32).toNatClampNeg), nI q, nI (k - 1)), (nI (k - 1), nI (k - 1), va_cpy (V 2) (V 0) (30 * (k - 1)) 0 30), ?_, ?_, rfl, ?_⟩
    · rw [f_Ye_undo, hre]; rfl
    · rw [f_Mo_undo, e3, if_neg (show ¬ nI k = (0 : Int32) from fun z => hk0 ((nI_eq (b := 0) (by omega) (by decide)).mp z)), ekm, e30, m_bringB 180 (V 2) (30 * (k - 1)) 30 (V 0) (by omega) (by decide) (by decide) (by decide)]; rfl
    · refine ⟨⟨(hBq.cpy (Y 0) (Y 1)).congr er, hVq.congr er⟩, hT, ⟨q, k - 1, by omega, by omega, rfl, rfl, rfl, fun j hj => ?_⟩, hl0, hS, hI⟩
      obtain ⟨q2, hq2, r1, r2⟩ := hrow j (by omega)
      exact ⟨q2, by omega, r1, r2⟩
theorem keep_gen (X : Nat → Int32) (Y ri rl rf : Nat → Nat → Int32) (im : Nat → Option Nat) (vi vl vf : Nat → Nat → Int32) (U : Nat → Int32) (V : Nat → Nat → Int32) (Z : Nat → Int64) (k : Nat) (hk : k < 2) (q : Nat) (gi gl : Nat → Int32) (h : Rel X Y ri rl rf im vi vl vf U V Z) : ∃ (zc : Int32 × Int32 × Int32 × Int32 × Int32 × Int32 × Int32 × Int32 × (Nat → Int32) × (Nat → Int32)) (mout : Int32 × (Nat → Int32) × (Nat → Int32)), f_Ba_copyFrom gi gl (X 0) (X 1) (X 2) (X 3) (X 4) (X 5) (X 6) (X 7) (Y 0) (Y 1) = some zc ∧ f_Mo_keep (V 0) (V 3) (V 4) (nI k) = some mout ∧ X 3 = mout.1 ∧ Rel X Y ri rl rf (va_up im k (some q)) (va_up vi k zc.2.2.2.2.2.2.2.2.1) (va_up vl k zc.2.2.2.2.2.2.2.2.2) (va_up vf k (fun j => match j with | 0 => zc.1 | 1 => zc.2.1 | 2 => zc.2.2.1 | 3 => zc.2.2.2.1 | 4 => zc.2.2.2.2.1 | 5 => zc.2.2.2.2.2.1 | 6 => zc.2.2.2.2.2.2.1 | _ => zc.2.2.2.2.2.2.2.1)) U (va_up (va_up V 3 mout.2.1) 4 mout.2.2) Z := by
  obtain ⟨⟨hB, hV⟩, hT, hH, hl0, hS, hI⟩ := h
  have hp : (0 : Int32) ≤ nI k ∧ nI k ≤ (1 : Int32) := nI_rng' (M := 1) (by decide) (by omega)
  have e30 : (30 : Int32) * nI k = nI (30 * k) := pk_mul 30 k
  refine ⟨_, (V 0 25, va_cpy (V 0) (V 3) 0 (30 * k) 30, upd (V 4) k (vp_nar .boolean 1)), rfl, ?_, hB.2.2.2.1.symm, ⟨hB, hV⟩, hT, hH, hl0, hS, fun j hj => ?_⟩
  · rw [f_Mo_keep, mIn, if_pos hp, z_obs, if_neg (by decide), e30, m_bringA 30 (V 0) 60 (V 3) (30 * k) (by decide) (by omega) (by decide) (by decide), z_obs, if_neg (ixn hk (by decide)), nI_clamp (by omega)]; rfl
  · have hj2 := hI j hj
    show RImg (va_up im k (some q) j) (upd (V 4) k (vp_nar .boolean 1) j) (va_up vi k _ j) (va_up vl k _ j) (va_up vf k _ j) (rowAt (va_cpy (V 0) (V 3) 0 (30 * k) 30) (30 * j))
    by_cases hjk : j = k
    · subst hjk
      have er : ∀ i, i < 30 → rowAt (va_cpy (V 0) (V 3) 0 (30 * j) 30) (30 * j) i = V 0 i := fun i hi => by
        show va_cpy (V 0) _ 0 (30 * j) 30 (30 * j + i) = V 0 i
        rw [pk_cpy_in (by omega) (by omega), show 0 + (30 * j + i - 30 * j) = i by omega]
      simp only [va_up, if_true, upd_at]
      exact ⟨rfl, (hB.cpy gi gl).congr er, hV.congr er⟩
    · have er : ∀ i, i < 30 → rowAt (va_cpy (V 0) (V 3) 0 (30 * k) 30) (30 * j) i = rowAt (V 3) (30 * j) i := fun i hi => by
        show va_cpy (V 0) _ 0 (30 * k) 30 (30 * j + i) = V 3 (30 * j + i)
        rw [pk_cpy_out (by omega)]
      simp only [va_up, if_neg hjk]
      rw [upd_ne hjk]
      cases hm : im j with
      | none => rw [hm] at hj2; exact hj2
      | some a =>
        rw [hm] at hj2
        exact ⟨hj2.1, hj2.2.1.congr er, hj2.2.2.congr er⟩
theorem pl_keep_0 (X : Nat → Int32) (Y ri rl rf : Nat → Nat → Int32) (im : Nat → Option Nat) (vi vl vf : Nat → Nat → Int32) (U : Nat → Int32) (V : Nat → Nat → Int32) (Z : Nat → Int64) (q : Nat) (gi gl : Nat → Int32) (h : Rel X Y ri rl rf im vi vl vf U V Z) : ∃ (zc : Int32 × Int32 × Int32 × Int32 × Int32 × Int32 × Int32 × Int32 × (Nat → Int32) × (Nat → Int32)) (mout : Int32 × (Nat → Int32) × (Nat → Int32)), f_Ba_copyFrom gi gl (X 0) (X 1) (X 2) (X 3) (X 4) (X 5) (X 6) (X 7) (Y 0) (Y 1) = some zc ∧ f_Mo_keep (V 0) (V 3) (V 4) (0 : Int32) = some mout ∧ X 3 = mout.1 ∧ Rel X Y ri rl rf (va_up im 0 (some q)) (va_up vi 0 zc.2.2.2.2.2.2.2.2.1) (va_up vl 0 zc.2.2.2.2.2.2.2.2.2) (va_up vf 0 (fun j => match j with | 0 => zc.1 | 1 => zc.2.1 | 2 => zc.2.2.1 | 3 => zc.2.2.2.1 | 4 => zc.2.2.2.2.1 | 5 => zc.2.2.2.2.2.1 | 6 => zc.2.2.2.2.2.2.1 | _ => zc.2.2.2.2.2.2.2.1)) U (va_up (va_up V 3 mout.2.1) 4 mout.2.2) Z := by
  exact keep_gen X Y ri rl rf im vi vl vf U V Z 0 (by decide) q gi gl h
theorem pl_keep_1 (X : Nat → Int32) (Y ri rl rf : Nat → Nat → Int32) (im : Nat → Option Nat) (vi vl vf : Nat → Nat → Int32) (U : Nat → Int32) (V : Nat → Nat → Int32) (Z : Nat → Int64) (q : Nat) (gi gl : Nat → Int32) (h : Rel X Y ri rl rf im vi vl vf U V Z) : ∃ (zc : Int32 × Int32 × Int32 × Int32 × Int32 × Int32 × Int32 × Int32 × (Nat → Int32) × (Nat → Int32)) (mout : Int32 × (Nat → Int32) × (Nat → Int32)), f_Ba_copyFrom gi gl (X 0) (X 1) (X 2) (X 3) (X 4) (X 5) (X 6) (X 7) (Y 0) (Y 1) = some zc ∧ f_Mo_keep (V 0) (V 3) (V 4) (1 : Int32) = some mout ∧ X 3 = mout.1 ∧ Rel X Y ri rl rf (va_up im 1 (some q)) (va_up vi 1 zc.2.2.2.2.2.2.2.2.1) (va_up vl 1 zc.2.2.2.2.2.2.2.2.2) (va_up vf 1 (fun j => match j with | 0 => zc.1 | 1 => zc.2.1 | 2 => zc.2.2.1 | 3 => zc.2.2.2.1 | 4 => zc.2.2.2.2.1 | 5 => zc.2.2.2.2.2.1 | 6 => zc.2.2.2.2.2.2.1 | _ => zc.2.2.2.2.2.2.2.1)) U (va_up (va_up V 3 mout.2.1) 4 mout.2.2) Z := by
  exact keep_gen X Y ri rl rf im vi vl vf U V Z 1 (by decide) q gi gl h
theorem no01 {p : Int32} (h0 : ¬ p = 0) (h1 : ¬ p = 1) : ¬ ((0 : Int32) ≤ p ∧ p ≤ (1 : Int32)) := by
  intro h
  obtain ⟨j, hj, rfl⟩ := nI_rng 1 (by decide) h
  rcases (show j = 0 ∨ j = 1 by omega) with rfl | rfl
  · exact h0 rfl
  · exact h1 rfl
theorem pl_keep_bad (X : Nat → Int32) (Y ri rl rf : Nat → Nat → Int32) (im : Nat → Option Nat) (vi vl vf : Nat → Nat → Int32) (U : Nat → Int32) (V : Nat → Nat → Int32) (Z : Nat → Int64) (p0 : Int32) (h0 : ¬ p0 = 0) (h1 : ¬ p0 = 1) (h : Rel X Y ri rl rf im vi vl vf U V Z) : ∃ (z1 : Int32) (mout : Int32 × (Nat → Int32) × (Nat → Int32)), f_Ye_isOutside p0 (0 : Int32) (1 : Int32) = some z1 ∧ ¬ z1 = 0 ∧ f_Mo_keep (V 0) (V 3) (V 4) p0 = some mout ∧ (-1 : Int32) = mout.1 ∧ Rel X Y ri rl rf im vi vl vf U (va_up (va_up V 3 mout.2.1) 4 mout.2.2) Z := by
  have hp := no01 h0 h1
  refine ⟨1, (-1, V 3, V 4), ?_, by decide, ?_, rfl, ?_⟩
  · rw [isOut, if_neg hp]
  · rw [f_Mo_keep, mIn, if_neg hp]; rfl
  · simp only [vu_self]; exact h
theorem pl_back_bad (X : Nat → Int32) (Y ri rl rf : Nat → Nat → Int32) (im : Nat → Option Nat) (vi vl vf : Nat → Nat → Int32) (U : Nat → Int32) (V : Nat → Nat → Int32) (Z : Nat → Int64) (p0 : Int32) (h0 : ¬ p0 = 0) (h1 : ¬ p0 = 1) (h : Rel X Y ri rl rf im vi vl vf U V Z) : ∃ (z1 : Int32) (mout : Int32 × Int32 × (Nat → Int32)), f_Ye_isOutside p0 (0 : Int32) (1 : Int32) = some z1 ∧ ¬ z1 = 0 ∧ f_Mo_back (U 0) (V 0) (V 3) (V 4) p0 = some mout ∧ (-1 : Int32) = mout.1 ∧ Rel X Y ri rl rf im vi vl vf (va_up U 0 mout.2.1) (va_up V 0 mout.2.2) Z := by
  have hp := no01 h0 h1
  refine ⟨1, (-1, U 0, V 0), ?_, by decide, ?_, rfl, ?_⟩
  · rw [isOut, if_neg hp]
  · rw [f_Mo_back, mIn, if_neg hp]; rfl
  · simp only [vu_self]; exact h
theorem pl_back_none_0 (X : Nat → Int32) (Y ri rl rf : Nat → Nat → Int32) (im : Nat → Option Nat) (vi vl vf : Nat → Nat → Int32) (U : Nat → Int32) (V : Nat → Nat → Int32) (Z : Nat → Int64) (him : im 0 = none) (h : Rel X Y ri rl rf im vi vl vf U V Z) : ∃ (mout : Int32 × Int32 × (Nat → Int32)), f_Mo_back (U 0) (V 0) (V 3) (V 4) (0 : Int32) = some mout ∧ (-2 : Int32) = mout.1 ∧ Rel X Y ri rl rf im vi vl vf (va_up U 0 mout.2.1) (va_up V 0 mout.2.2) Z := by
  have hk := h.2.2.2.2.2 0 (by decide)
  rw [him] at hk
  refine ⟨(-2, U 0, V 0), ?_, rfl, ?_⟩
  · rw [f_Mo_back, mIn, if_pos ⟨by decide, by decide⟩, z_obs, if_neg (by decide), if_neg (by decide), show (0 : Int32).toNatClampNeg = 0 from rfl, if_pos (show V 4 0 = 0 from hk)]
  · simp only [vu_self]; exact h
theorem pl_back_none_1 (X : Nat → Int32) (Y ri rl rf : Nat → Nat → Int32) (im : Nat → Option Nat) (vi vl vf : Nat → Nat → Int32) (U : Nat → Int32) (V : Nat → Nat → Int32) (Z : Nat → Int64) (him : im 1 = none) (h : Rel X Y ri rl rf im vi vl vf U V Z) : ∃ (mout : Int32 × Int32 × (Nat → Int32)), f_Mo_back (U 0) (V 0) (V 3) (V 4) (1 : Int32) = some mout ∧ (-2 : Int32) = mout.1 ∧ Rel X Y ri rl rf im vi vl vf (va_up U 0 mout.2.1) (va_up V 0 mout.2.2) Z := by
  have hk := h.2.2.2.2.2 1 (by decide)
  rw [him] at hk
  refine ⟨(-2, U 0, V 0), ?_, rfl, ?_⟩
  · rw [f_Mo_back, mIn, if_pos ⟨by decide, by decide⟩, z_obs, if_neg (by decide), if_neg (by decide), show (1 : Int32).toNatClampNeg = 1 from rfl, if_pos (show V 4 1 = 0 from hk)]
  · simp only [vu_self]; exact h
theorem back_gen (X : Nat → Int32) (Y ri rl rf : Nat → Nat → Int32) (im : Nat → Option Nat) (vi vl vf : Nat → Nat → Int32) (U : Nat → Int32) (V : Nat → Nat → Int32) (Z : Nat → Int64) (k : Nat) (hk : k < 2) (q : Nat) (him : im k = some q) (h : Rel X Y ri rl rf im vi vl vf U V Z) : f_Mo_back (U 0) (V 0) (V 3) (V 4) (nI k) = some (vf k 3, 0, va_cpy (V 3) (V 0) (30 * k) 0 30) ∧ RowB (vf k 0) (vf k 1) (vf k 2) (vf k 3) (vf k 4) (vf k 5) (vf k 6) (vf k 7) (va_cpy (vi k) (Y 0) (0 : Int32).toNatClampNeg (0 : Int32).toNatClampNeg (12 : Int32).toNatClampNeg) (va_cpy (vl k) (Y 1) (0 : Int32).toNatClampNeg (0 : Int32).toNatClampNeg (10 : Int32).toNatClampNeg) (va_cpy (V 3) (V 0) (30 * k) 0 30) ∧ RowV (va_cpy (V 3) (V 0) (30 * k) 0 30) := by
  have hj2 := h.2.2.2.2.2 k hk
  rw [him] at hj2
  obtain ⟨hk1, hB, hV⟩ := hj2
  have hp : (0 : Int32) ≤ nI k ∧ nI k ≤ (1 : Int32) := nI_rng' (M := 1) (by decide) (by omega)
  have e30 : (30 : Int32) * nI k = nI (30 * k) := pk_mul 30 k
  have er : ∀ i, i < 30 → va_cpy (V 3) (V 0) (30 * k) 0 30 i = rowAt (V 3) (30 * k) i := fun i hi => by
    rw [pk_cpy_in (by omega) (by omega), Nat.sub_zero]; rfl
  have hB2 := (hB.cpy (Y 0) (Y 1)).congr er
  refine ⟨?_, hB2, hV.congr er⟩
  rw [f_Mo_back, mIn, if_pos hp, z_obs, if_neg (by decide), if_neg (ixn hk (by decide)), nI_clamp (by omega), hk1, if_neg (by decide), e30, m_bringB 60 (V 3) (30 * k) 30 (V 0) (by omega) (by decide) (by decide) (by decide), z_obs, if_neg (by decide), show (25 : Int32).toNatClampNeg = 25 from rfl, hB2.2.2.2.1]
theorem his_empty {nx : Int32} {kn un : Int32} {ri rl rf : Nat → Nat → Int32} {past : Nat → Int32} (h : RHis nx kn un ri rl rf past) : RHis nx 0 0 ri rl rf past := by
  obtain ⟨x, k, hx, hk, e1, e2, e3, hrow⟩ := h
  exact ⟨x, 0, hx, by omega, e1, rfl, rfl, fun j hj => absurd hj (by omega)⟩
theorem pl_back_some_0 (X : Nat → Int32) (Y ri rl rf : Nat → Nat → Int32) (im : Nat → Option Nat) (vi vl vf : Nat → Nat → Int32) (U : Nat → Int32) (V : Nat → Nat → Int32) (Z : Nat → Int64) (q : Nat) (him : im 0 = some q) (h : Rel X Y ri rl rf im vi vl vf U V Z) : ∃ (zc : Int32 × Int32 × Int32 × Int32 × Int32 × Int32 × Int32 × Int32 × (Nat → Int32) × (Nat → Int32)) (z4 : Int32) (mout : Int32 × Int32 × (Nat → Int32)), f_Ba_copyFrom (Y 0) (Y 1) (vf 0 0) (vf 0 1) (vf 0 2) (vf 0 3) (vf 0 4) (vf 0 5) (vf 0 6) (vf 0 7) (vi 0) (vl 0) = some zc ∧ f_Hi_empty = some z4 ∧ f_Mo_back (U 0) (V 0) (V 3) (V 4) (0 : Int32) = some mout ∧ zc.2.2.2.1 = mout.1 ∧ Rel (va_up (va_up (va_up (va_up (va_up (va_up (va_up (va_up (va_up X 0 zc.1) 1 zc.2.1) 2 zc.2.2.1) 3 zc.2.2.2.1) 4 zc.2.2.2.2.1) 5 zc.2.2.2.2.2.1) 6 zc.2.2.2.2.2.2.1) 7 zc.2.2.2.2.2.2.2.1) 22 z4) (va_up (va_up Y 0 zc.2.2.2.2.2.2.2.2.1) 1 zc.2.2.2.2.2.2.2.2.2) ri rl rf im vi vl vf (va_up U 0 mout.2.1) (va_up V 0 mout.2.2) Z := by
  obtain ⟨e, hB, hV⟩ := back_gen X Y ri rl rf im vi vl vf U V Z 0 (by decide) q him h
  obtain ⟨-, hT, hH, hl0, hS, hI⟩ := h
  exact ⟨_, _, _, rfl, rfl, e, rfl, ⟨hB, hV⟩, hT, his_empty hH, hl0, hS, hI⟩
theorem pl_back_some_1 (X : Nat → Int32) (Y ri rl rf : Nat → Nat → Int32) (im : Nat → Option Nat) (vi vl vf : Nat → Nat → Int32) (U : Nat → Int32) (V : Nat → Nat → Int32) (Z : Nat → Int64) (q : Nat) (him : im 1 = some q) (h : Rel X Y ri rl rf im vi vl vf U V Z) : ∃ (zc : Int32 × Int32 × Int32 × Int32 × Int32 × Int32 × Int32 × Int32 × (Nat → Int32) × (Nat → Int32)) (z4 : Int32) (mout : Int32 × Int32 × (Nat → Int32)), f_Ba_copyFrom (Y 0) (Y 1) (vf 1 0) (vf 1 1) (vf 1 2) (vf 1 3) (vf 1 4) (vf 1 5) (vf 1 6) (vf 1 7) (vi 1) (vl 1) = some zc ∧ f_Hi_empty = some z4 ∧ f_Mo_back (U 0) (V 0) (V 3) (V 4) (1 : Int32) = some mout ∧ zc.2.2.2.1 = mout.1 ∧ Rel (va_up (va_up (va_up (va_up (va_up (va_up (va_up (va_up (va_up X 0 zc.1) 1 zc.2.1) 2 zc.2.2.1) 3 zc.2.2.2.1) 4 zc.2.2.2.2.1) 5 zc.2.2.2.2.2.1) 6 zc.2.2.2.2.2.2.1) 7 zc.2.2.2.2.2.2.2.1) 22 z4) (va_up (va_up Y 0 zc.2.2.2.2.2.2.2.2.1) 1 zc.2.2.2.2.2.2.2.2.2) ri rl rf im vi vl vf (va_up U 0 mout.2.1) (va_up V 0 mout.2.2) Z := by
  obtain ⟨e, hB, hV⟩ := back_gen X Y ri rl rf im vi vl vf U V Z 1 (by decide) q him h
  obtain ⟨-, hT, hH, hl0, hS, hI⟩ := h
  exact ⟨_, _, _, rfl, rfl, e, rfl, ⟨hB, hV⟩, hT, his_empty hH, hl0, hS, hI⟩
