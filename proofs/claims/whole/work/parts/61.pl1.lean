theorem pl_type (X : Nat → Int32) (Y ri rl rf : Nat → Nat → Int32) (im : Nat → Option Nat) (vi vl vf : Nat → Nat → Int32) (U : Nat → Int32) (V : Nat → Nat → Int32) (Z : Nat → Int64) (p0 : Int32) (h : Rel X Y ri rl rf im vi vl vf U V Z) : ∃ (out : Int32 × Int32 × (Nat → Int32)) (mout : Int32 × Int32 × (Nat → Int32)), f_Ye_type (X 16) (Y 4) p0 = some out ∧ f_Mo_type (U 2) (V 7) p0 = some mout ∧ out.1 = mout.1 ∧ Rel (va_up X 16 out.2.1) (va_up Y 4 out.2.2) ri rl rf im vi vl vf (va_up U 2 mout.2.1) (va_up V 7 mout.2.2) Z := by
  obtain ⟨hN, ⟨n, hn, ex, eu, hy⟩, hH, hl0, hSee, hImg⟩ := h
  by_cases hp : 0 ≤ p0 ∧ p0 ≤ 255
  · by_cases h120 : n = 120
    · subst h120
      refine ⟨(-3, X 16, Y 4), (-3, U 2, V 7), ?_, ?_, rfl, ?_⟩
      · rw [f_Ye_type, isOut, if_pos hp, ex]
        rfl
      · rw [f_Mo_type, mIn, if_pos hp, eu]
        rfl
      · rw [vu_self, vu_self, vu_self, vu_self]
        exact ⟨hN, ⟨120, hn, ex, eu, hy⟩, hH, hl0, hSee, hImg⟩
    · have hlt : n < 120 := by omega
      refine ⟨(nI (n + 1), nI (n + 1), upd (Y 4) n p0), (nI (n + 1), nI (n + 1), upd (V 7) n p0), ?_, ?_, rfl, ?_⟩
      · rw [f_Ye_type, isOut, if_pos hp, ex]
        simp (disch := omega) only [f_Te_append, zlit, z_obs, z_lt, z_le, z_eq, z_cl, z_add, z_rem2, z_div, z_mul, if_pos, if_neg, if_true, if_false]
      · rw [f_Mo_type, mIn, if_pos hp, eu]
        simp (disch := omega) only [zlit, z_obs, z_lt, z_le, z_eq, z_cl, z_add, z_rem2, z_div, z_mul, if_pos, if_neg, if_true, if_false]
      · refine ⟨hN, ⟨n + 1, by omega, rfl, rfl, ?_⟩, hH, hl0, hSee, hImg⟩
        intro i hi
        show upd (Y 4) n p0 i = upd (V 7) n p0 i
        rw [upd_eq, upd_eq]
        by_cases h : i = n
        · rw [if_pos h, if_pos h]
        · rw [if_neg h, if_neg h]; exact hy i (by omega)
  · refine ⟨(-1, X 16, Y 4), (-1, U 2, V 7), ?_, ?_, rfl, ?_⟩
    · rw [f_Ye_type, isOut, if_neg hp]; rfl
    · rw [f_Mo_type, mIn, if_neg hp]; rfl
    · rw [vu_self, vu_self, vu_self, vu_self]
      exact ⟨hN, ⟨n, hn, ex, eu, hy⟩, hH, hl0, hSee, hImg⟩
theorem pl_clear (X : Nat → Int32) (Y ri rl rf : Nat → Nat → Int32) (im : Nat → Option Nat) (vi vl vf : Nat → Nat → Int32) (U : Nat → Int32) (V : Nat → Nat → Int32) (Z : Nat → Int64) (h : Rel X Y ri rl rf im vi vl vf U V Z) : ∃ (out : Int32 × Int32) (mout : Int32 × Int32), f_Ye_clear (X 16) = some out ∧ f_Mo_clear (U 2) = some mout ∧ out.1 = mout.1 ∧ Rel (va_up X 16 out.2) Y ri rl rf im vi vl vf (va_up U 2 mout.2) V Z := by
  obtain ⟨hN, ⟨n, hn, ex, eu, hy⟩, hH, hl0, hSee, hImg⟩ := h
  refine ⟨(X 16, 0), (U 2, 0), rfl, rfl, ex.trans eu.symm, hN, ⟨0, by omega, rfl, rfl, fun i hi => absurd hi (by omega)⟩, hH, hl0, hSee, hImg⟩
theorem pl_forget (X : Nat → Int32) (Y ri rl rf : Nat → Nat → Int32) (im : Nat → Option Nat) (vi vl vf : Nat → Nat → Int32) (U : Nat → Int32) (V : Nat → Nat → Int32) (Z : Nat → Int64) (h : Rel X Y ri rl rf im vi vl vf U V Z) : ∃ (out : Int32 × Int32) (mout : Int32 × Int32), f_Ye_forget (X 31) = some out ∧ f_Mo_forget (U 1) = some mout ∧ out.1 = mout.1 ∧ Rel (va_up X 31 out.2) Y ri rl rf im vi vl vf (va_up U 1 mout.2) V Z := by
  obtain ⟨hN, hT, hH, hl0, ⟨n, hn, ex, eu, hy⟩, hImg⟩ := h
  refine ⟨(X 31, 0), (U 1, 0), rfl, rfl, ex.trans eu.symm, hN, hT, hH, hl0, ⟨0, by omega, rfl, rfl, fun i hi => absurd hi (by omega)⟩, hImg⟩
theorem pl_sees (X : Nat → Int32) (Y ri rl rf : Nat → Nat → Int32) (im : Nat → Option Nat) (vi vl vf : Nat → Nat → Int32) (U : Nat → Int32) (V : Nat → Nat → Int32) (Z : Nat → Int64) (p0 : Int32) (p1 : Int32) (h : Rel X Y ri rl rf im vi vl vf U V Z) : ∃ (out : Int32 × Int32 × (Nat → Int32) × (Nat → Int32)) (mout : Int32 × Int32 × (Nat → Int32) × (Nat → Int32)), f_Ye_sees (X 31) (Y 7) (Y 8) p0 p1 = some out ∧ f_Mo_sees (U 1) (V 5) (V 6) p0 p1 = some mout ∧ out.1 = mout.1 ∧ Rel (va_up X 31 out.2.1) (va_up (va_up Y 7 out.2.2.1) 8 out.2.2.2) ri rl rf im vi vl vf (va_up U 1 mout.2.1) (va_up (va_up V 5 mout.2.2.1) 6 mout.2.2.2) Z := by
  obtain ⟨hN, hT, hH, hl0, ⟨n, hn, ex, eu, hy⟩, hImg⟩ := h
  by_cases hp : 0 ≤ p0 ∧ p0 ≤ 39
  · by_cases hq : 0 ≤ p1 ∧ p1 ≤ 999
    · by_cases h6 : n = 6
      · subst h6
        refine ⟨(-3, X 31, Y 7, Y 8), (-3, U 1, V 5, V 6), ?_, ?_, rfl, ?_⟩
        · rw [f_Ye_sees, isOut, if_pos hp, isOut, if_pos hq, ex]
          rfl
        · rw [f_Mo_sees, mIn, if_pos hp, mIn, if_pos hq, eu]
          rfl
        · rw [vu_self, vu_self, vu_self, vu_self, vu_self, vu_self]
          exact ⟨hN, hT, hH, hl0, ⟨6, hn, ex, eu, hy⟩, hImg⟩
      · have hlt : n < 6 := by omega
        obtain ⟨t, ht, et⟩ := nI_rng 39 (by decide) hp
        refine ⟨(nI (n + 1), nI (n + 1), upd (Y 7) n p0, upd (Y 8) n p1), (nI (n + 1), nI (n + 1), upd (V 5) n p0, upd (V 6) n p1), ?_, ?_, rfl, ?_⟩
        · rw [f_Ye_sees, isOut, if_pos hp, isOut, if_pos hq, ex]
          simp (disch := omega) only [f_Si_append, zlit, z_obs, z_lt, z_le, z_eq, z_cl, z_add, z_rem2, z_div, z_mul, if_pos, if_neg, if_true, if_false]
        · rw [f_Mo_sees, mIn, if_pos hp, mIn, if_pos hq, eu]
          simp (disch := omega) only [zlit, z_obs, z_lt, z_le, z_eq, z_cl, z_add, z_rem2, z_div, z_mul, if_pos, if_neg, if_true, if_false]
        · refine ⟨hN, hT, hH, hl0, ⟨n + 1, by omega, rfl, rfl, ?_⟩, hImg⟩
          intro i hi
          show (∃ t, t ≤ 39 ∧ upd (Y 7) n p0 i = nI t ∧ upd (V 5) n p0 i = nI t) ∧ upd (Y 8) n p1 i = upd (V 6) n p1 i
          rw [upd_eq, upd_eq, upd_eq, upd_eq]
          by_cases h : i = n
          · rw [if_pos h, if_pos h, if_pos h, if_pos h]; exact ⟨⟨t, ht, et, et⟩, rfl⟩
          · rw [if_neg h, if_neg h, if_neg h, if_neg h]; exact hy i (by omega)
    · refine ⟨(-1, X 31, Y 7, Y 8), (-1, U 1, V 5, V 6), ?_, ?_, rfl, ?_⟩
      · rw [f_Ye_sees, isOut, if_pos hp, isOut, if_neg hq]; rfl
      · rw [f_Mo_sees, mIn, if_pos hp, mIn, if_neg hq]; rfl
      · rw [vu_self, vu_self, vu_self, vu_self, vu_self, vu_self]
        exact ⟨hN, hT, hH, hl0, ⟨n, hn, ex, eu, hy⟩, hImg⟩
  · refine ⟨(-1, X 31, Y 7, Y 8), (-1, U 1, V 5, V 6), ?_, ?_, rfl, ?_⟩
    · rw [f_Ye_sees, isOut, if_neg hp]; rfl
    · rw [f_Mo_sees, mIn, if_neg hp]; rfl
    · rw [vu_self, vu_self, vu_self, vu_self, vu_self, vu_self]
      exact ⟨hN, hT, hH, hl0, ⟨n, hn, ex, eu, hy⟩, hImg⟩
