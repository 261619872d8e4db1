/-! ===== THE TEXT: all of it ===== -/
def rI (k : Nat) (L at_ ta so v it tl : Int32) (r c : Nat → Int32) : Option (Int32 × Int32 × Int32 × Int32 × Int32 × Int32 × Int32 × (Nat → Int32)) :=
  if (tl &&& kb k) = 0 then (f_Mo_readNumbers L at_ v r c (nI (qT k)) (sF k) (sM k) (sG k)).bind (fun z => if z.1 = 0 then some (0, z.2.1, z.2.2.1, z.2.2.2.1, z.2.2.2.2.1, it + 1, tl ||| kb k, z.2.2.2.2.2) else if z.2.2.2.1 = 59 then some (1, z.2.1, z.2.2.1, z.2.2.2.1, z.2.2.2.2.1, it + 1, tl ||| kb k, z.2.2.2.2.2) else some (0, z.2.1, z.2.2.1, z.2.2.2.1, z.2.2.2.2.1, it + 1, tl ||| kb k, z.2.2.2.2.2)) else some (0, at_, ta, so, v, it, tl, r)
theorem rI_k {k : Nat} (hk : k < 4) (L at_ ta v it tl : Int32) (r c : Nat → Int32) : f_Mo_readItem L at_ ta (sK k) v it tl r c = rI k L at_ ta (sK k) v it tl r c := by
  unfold rI
  rcases k4 hk with rfl | rfl | rfl | rfl
  · rw [f_Mo_readItem, if_pos (show sK 0 = 105 from rfl), if_neg (show ¬ (1 : Int32) = 0 by decide), if_pos (show (1 : Int32) = 1 from rfl)]; rfl
  · rw [f_Mo_readItem, if_neg (show ¬ sK 1 = 105 by decide), if_pos (show sK 1 = 100 from rfl), if_neg (show ¬ (2 : Int32) = 0 by decide), if_neg (show ¬ (2 : Int32) = 1 by decide), if_pos (show (2 : Int32) = 2 from rfl)]; rfl
  · rw [f_Mo_readItem, if_neg (show ¬ sK 2 = 105 by decide), if_neg (show ¬ sK 2 = 100 by decide), if_pos (show sK 2 = 99 from rfl), if_neg (show ¬ (4 : Int32) = 0 by decide), if_neg (show ¬ (4 : Int32) = 1 by decide), if_neg (show ¬ (4 : Int32) = 2 by decide), if_pos (show (4 : Int32) = 4 from rfl)]; rfl
  · rw [f_Mo_readItem, if_neg (show ¬ sK 3 = 105 by decide), if_neg (show ¬ sK 3 = 100 by decide), if_neg (show ¬ sK 3 = 99 by decide), if_pos (show sK 3 = 101 from rfl), if_neg (show ¬ (8 : Int32) = 0 by decide), if_neg (show ¬ (8 : Int32) = 1 by decide), if_neg (show ¬ (8 : Int32) = 2 by decide), if_neg (show ¬ (8 : Int32) = 4 by decide)]; rfl
theorem rI_no {so : Int32} (h : ¬ (so = 105 ∨ so = 100 ∨ so = 99 ∨ so = 101)) (L at_ ta v it tl : Int32) (r c : Nat → Int32) : f_Mo_readItem L at_ ta so v it tl r c = some (0, at_, ta, so, v, it, tl, r) := by
  rw [f_Mo_readItem, if_neg (fun q => h (.inl q)), if_neg (fun q => h (.inr (.inl q))), if_neg (fun q => h (.inr (.inr (.inl q)))), if_neg (fun q => h (.inr (.inr (.inr q)))), if_pos rfl]
theorem bits : ∀ w, w < 16 → ∀ i, i < 4 → ((((nI w >>> (nI i &&& 31)) &&& (1 : Int32)) = 0) ↔ ((nI w &&& kb i) = 0)) := by decide
theorem bit1 : ∀ i, i < 4 → (1 : Int32) <<< (nI i &&& 31) = kb i := by decide
theorem bitor : ∀ w, w < 16 → ∀ i, i < 4 → (nI w ||| kb i) = nI (w ||| 2 ^ i) ∧ (w ||| 2 ^ i) < 16 := by decide
theorem k12 {i : Nat} (hi : i < 4) (x : Int32) (n : Nat) (kd nu tl : Int32) : f_Te_takesKind_L12 x (n + 1) (nI i) kd nu tl = (if sK i = x then (if ((tl >>> (nI i &&& 31)) &&& (1 : Int32)) = 0 then some (.inr (1, nI i, 0, tl ||| kb i)) else f_Te_takesKind_L12 x n (nI (i + 1)) kd nu tl) else f_Te_takesKind_L12 x n (nI (i + 1)) kd nu tl) := by
  rw [f_Te_takesKind_L12_s, if_neg (show ¬ (4 : Int32) ≤ nI i from nI_ge (b := 4) hi (by decide)), if_neg (ixn hi (by decide)), nI_clamp (by omega), nI_1, bit1 i hi]
theorem k12e (x : Int32) (n : Nat) (kd nu tl : Int32) : f_Te_takesKind_L12 x (n + 1) (nI (3 + 1)) kd nu tl = some (.inl (nI 4, kd, nu, tl)) := by
  rw [f_Te_takesKind_L12_s, if_pos (by decide)]
theorem tk_yes {k w : Nat} (hk : k < 4) (hw : w < 16) (nu : Int32) (h : (nI w &&& kb k) = 0) : f_Te_takesKind (-1) nu (nI w) (sK k) = some (1, nI k, 0, nI w ||| kb k) := by
  have hb := (bits w hw k hk).mpr h
  have e0 : f_Te_takesKind_L12 (sK k) FU (0 : Int32) (-1) nu (nI w) = some (.inr (1, nI k, 0, nI w ||| kb k)) := by
    show f_Te_takesKind_L12 (sK k) (1996 + 1 + 1 + 1 + 1) (nI 0) (-1) nu (nI w) = _
    rcases k4 hk with rfl | rfl | rfl | rfl
    · rw [k12 (by decide), if_pos rfl, if_pos hb]
    · rw [k12 (by decide), if_neg (by decide), k12 (by decide), if_pos rfl, if_pos hb]
    · rw [k12 (by decide), if_neg (by decide), k12 (by decide), if_neg (by decide), k12 (by decide), if_pos rfl, if_pos hb]
    · rw [k12 (by decide), if_neg (by decide), k12 (by decide), if_neg (by decide), k12 (by decide), if_neg (by decide), k12 (by decide), if_pos rfl, if_pos hb]
  rw [f_Te_takesKind, if_pos rfl, e0]; rfl
theorem tk_told {k w : Nat} (hk : k < 4) (hw : w < 16) (nu : Int32) (h : ¬ (nI w &&& kb k) = 0) : f_Te_takesKind (-1) nu (nI w) (sK k) = some (0, -1, nu, nI w) := by
  have hb : ¬ ((nI w >>> (nI k &&& 31)) &&& (1 : Int32)) = 0 := fun q => h ((bits w hw k hk).mp q)
  have e0 : f_Te_takesKind_L12 (sK k) FU (0 : Int32) (-1) nu (nI w) = some (.inl (nI 4, -1, nu, nI w)) := by
    show f_Te_takesKind_L12 (sK k) (1995 + 1 + 1 + 1 + 1 + 1) (nI 0) (-1) nu (nI w) = _
    rcases k4 hk with rfl | rfl | rfl | rfl
    · rw [k12 (by decide), if_pos rfl, if_neg hb, k12 (by decide), if_neg (by decide), k12 (by decide), if_neg (by decide), k12 (by decide), if_neg (by decide), k12e]
    · rw [k12 (by decide), if_neg (by decide), k12 (by decide), if_pos rfl, if_neg hb, k12 (by decide), if_neg (by decide), k12 (by decide), if_neg (by decide), k12e]
    · rw [k12 (by decide), if_neg (by decide), k12 (by decide), if_neg (by decide), k12 (by decide), if_pos rfl, if_neg hb, k12 (by decide), if_neg (by decide), k12e]
    · rw [k12 (by decide), if_neg (by decide), k12 (by decide), if_neg (by decide), k12 (by decide), if_neg (by decide), k12 (by decide), if_pos rfl, if_neg hb, k12e]
  rw [f_Te_takesKind, if_pos rfl, e0]; rfl
theorem tk_none {x : Int32} (h : ¬ (x = 105 ∨ x = 100 ∨ x = 99 ∨ x = 101)) (nu tl : Int32) : f_Te_takesKind (-1) nu tl x = some (0, -1, nu, tl) := by
  have e0 : f_Te_takesKind_L12 x FU (0 : Int32) (-1) nu tl = some (.inl (nI 4, -1, nu, tl)) := by
    show f_Te_takesKind_L12 x (1995 + 1 + 1 + 1 + 1 + 1) (nI 0) (-1) nu tl = _
    rw [k12 (by decide), if_neg (show ¬ sK 0 = x from fun q => h (.inl q.symm)), k12 (by decide), if_neg (show ¬ sK (0 + 1) = x from fun q => h (.inr (.inl q.symm))), k12 (by decide), if_neg (show ¬ sK (0 + 1 + 1) = x from fun q => h (.inr (.inr (.inl q.symm)))), k12 (by decide), if_neg (show ¬ sK (0 + 1 + 1 + 1) = x from fun q => h (.inr (.inr (.inr q.symm)))), k12e]
  rw [f_Te_takesKind, if_pos rfl, e0]; rfl
section TEX
variable {c ya : Nat → Int32} {M m : Nat} {z1 : Int32 × Int32 × Int32 × Int32 × Int32 × Int32 × Int32 × Int32 × (Nat → Int32) × (Nat → Int32)}
theorem m_scan_any (hM : M ≤ 120) {p : Nat} (hp : p ≤ M) (x : Int32) : ∃ a t s v, f_Mo_scan (nI M) (nI p) x c = some (a, t, s, v) := by
  obtain ⟨r1, r2⟩ := sp_rng c hp
  by_cases h : sp c M p = M
  · exact ⟨_, _, _, _, m_scan_end hM hp x h⟩
  · exact ⟨_, _, _, _, m_scan_tok hM hp x rfl (by omega)⟩
theorem ts_n2 (c : Nat → Int32) (M s : Nat) : ¬ ts c M s = 2 := by
  by_cases hd : dig c s = true
  · rcases ts_dig (M := M) hd with ⟨h, -⟩ | h <;> rw [h] <;> decide
  · unfold ts
    rw [if_neg hd]
    by_cases h2 : c s = 105 ∨ c s = 100 ∨ c s = 99 ∨ c s = 101 ∨ c s = 59
    · rw [if_pos h2]
      intro q
      rw [q] at h2; exact absurd h2 (by decide)
    · rw [if_neg h2]; decide
/-- the numbers of an item, read to its end -/
theorem rN_S {k p ν' p' : Nat} (hk : k < 4) {x a t s v t' v' : Int32} {r r' : Nat → Int32} (h1 : f_Mo_scan (nI M) (nI p) x c = some (a, t, s, v)) (h2 : f_Mo_readNumbers_L7 (nI M) c (nI (qT k)) (sM k) (sG k) FU (nI 0) a t s v r = some (.inl (nI ν', nI p', t', 59, v', r'))) (h3 : qF k ≤ ν') (h4 : ν' ≤ qM k) : f_Mo_readNumbers (nI M) (nI p) x r c (nI (qT k)) (sF k) (sM k) (sG k) = some (1, nI p', t', 59, v', if k = 0 then upd r' 0 (nI ν') else r') := by
  obtain ⟨q1, q2, q3, q4, q5, q6⟩ := q_rng hk
  have h2' : f_Mo_readNumbers_L7 (nI M) c (nI (qT k)) (sM k) (sG k) FU (0 : Int32) a t s v r = some (.inl (nI ν', nI p', t', 59, v', r')) := h2
  rw [f_Mo_readNumbers, h1, z_obs, h2', z_obs, Sum.elim_inl]
  dsimp only
  rw [sF_n hk, if_neg (nI_nlt h3 (by omega)), if_neg (nI_nlt h3 (by omega)), gz, gz]
  by_cases h0 : k = 0
  · subst h0
    rw [if_pos (show nI (qT 0) = 1 from rfl), if_pos rfl]; rfl
  · rw [if_neg (show ¬ nI (qT k) = 1 from fun q => by
      have := (nI_eq (b := 1) (by omega) (by decide)).mp q
      rcases k4 hk with rfl | rfl | rfl | rfl
      · exact h0 rfl
      · exact absurd this (by decide)
      · exact absurd this (by decide)
      · exact absurd this (by decide)), if_neg h0, upd_self]
theorem rN_F {k p f : Nat} (hk : k < 4) {x a t s v : Int32} {r : Nat → Int32} (h1 : f_Mo_scan (nI M) (nI p) x c = some (a, t, s, v)) (h2 : (∃ a' s' v' r', f_Mo_readNumbers_L7 (nI M) c (nI (qT k)) (sM k) (sG k) FU (nI 0) a t s v r = some (.inr (0, a', nI f, s', v', r'))) ∨ (∃ (ν' : Nat) (a' s' v' : Int32) (r' : Nat → Int32), f_Mo_readNumbers_L7 (nI M) c (nI (qT k)) (sM k) (sG k) FU (nI 0) a t s v r = some (.inl (nI ν', a', nI f, s', v', r')) ∧ ν' ≤ 12 ∧ (ν' < qF k ∨ ¬ s' = 59))) : ∃ b a' s' v' r', f_Mo_readNumbers (nI M) (nI p) x r c (nI (qT k)) (sF k) (sM k) (sG k) = some (b, a', nI f, s', v', r') ∧ (b = 0 ∨ ¬ s' = 59) := by
  obtain ⟨q1, q2, q3, q4, q5, q6⟩ := q_rng hk
  rcases h2 with ⟨a', s', v', r', e⟩ | ⟨ν', a', s', v', r', e, h3, h4⟩
  · have e' : f_Mo_readNumbers_L7 (nI M) c (nI (qT k)) (sM k) (sG k) FU (0 : Int32) a t s v r = _ := e
    refine ⟨0, a', s', v', r', ?_, .inl rfl⟩
    rw [f_Mo_readNumbers, h1, z_obs, e']; rfl
  · have e' : f_Mo_readNumbers_L7 (nI M) c (nI (qT k)) (sM k) (sG k) FU (0 : Int32) a t s v r = _ := e
    by_cases hf : ν' < qF k
    · refine ⟨0, a', s', v', if nI (qT k) = 1 then upd r' 0 (nI ν') else upd r' 0 (r' 0), ?_, .inl rfl⟩
      rw [f_Mo_readNumbers, h1, z_obs, e', z_obs, Sum.elim_inl]
      dsimp only
      rw [sF_n hk, if_pos (nI_lt hf (by omega)), if_pos (nI_lt hf (by omega)), gz, gz]
      by_cases h0 : nI (qT k) = 1
      · rw [if_pos h0, if_pos h0]; rfl
      · rw [if_neg h0, if_neg h0]; rfl
    · refine ⟨1, a', s', v', if nI (qT k) = 1 then upd r' 0 (nI ν') else upd r' 0 (r' 0), ?_, .inr (h4.resolve_left hf)⟩
      rw [f_Mo_readNumbers, h1, z_obs, e', z_obs, Sum.elim_inl]
      dsimp only
      rw [sF_n hk, if_neg (nI_nlt (by omega) (by omega)), if_neg (nI_nlt (by omega) (by omega)), gz, gz]
      by_cases h0 : nI (qT k) = 1
      · rw [if_pos h0, if_pos h0]; rfl
      · rw [if_neg h0, if_neg h0]; rfl
theorem text_run (hM : M ≤ 120) (hc : ∀ i, i < M → ya i = c i) (hm : 1 ≤ m) : ∀ K p, M - p ≤ K → p ≤ M → ∀ (e n i w : Nat) (nu per dr cap : Int32) (inf los r : Nat → Int32) (x a t s v : Int32), e ≤ p → i ≤ p → w < 16 → M - p < n → TR per dr cap inf los r → f_Mo_scan (nI M) (nI p) x c = some (a, t, s, v) → ((∃ (i' : Nat) (a' t' s' v' w' e' nu' per' dr' cap' : Int32) (inf' los' r' : Nat → Int32), i' ≤ 120 ∧ f_Mo_readText_L23 (nI M) c n a t s v (nI i) (nI w) r = some (.inl (a', t', s', v', nI i', w', r')) ∧ CL M ya z1 m e p (-1) nu (nI i) (nI w) per dr cap inf los = some (.inl (e', nI M, -1, nu', nI i', w', per', dr', cap', inf', los')) ∧ TR per' dr' cap' inf' los' r') ∨ (∃ (f : Nat) (y : Sum YI YO) (a' t' s' v' i' w' : Int32) (r' : Nat → Int32), f ≤ M ∧ f_Mo_readText_L23 (nI M) c n a t s v (nI i) (nI w) r = some (.inr (nI f, a', t', s', v', i', w', r')) ∧ CL M ya z1 m e p (-1) nu (nI i) (nI w) per dr cap inf los = some y ∧ CF M f y)) := by
  intro K
  induction K with
  | zero =>
    intro p hK hp e n i w nu per dr cap inf los r x a t s v he hi hw hn hT hsc
    obtain rfl : p = M := by omega
    obtain ⟨n, rfl⟩ : ∃ q, n = q + 1 := ⟨n - 1, by omega⟩
    have es : sp c p p = p := by have := sp_rng c (Nat.le_refl p); omega
    rw [m_scan_end hM (Nat.le_refl _) x es] at hsc
    cases hsc
    refine .inl ⟨i, nI p, nI p, 2, x, nI w, nI e, nu, per, dr, cap, inf, los, r, by omega, ?_, CL_end hM hm .., hT⟩
    rw [f_Mo_readText_L23_s, if_pos rfl]
  | succ K ih =>
    intro p hK hp e n i w nu per dr cap inf los r x a t s v he hi hw hn hT hsc
    obtain ⟨n, rfl⟩ : ∃ q, n = q + 1 := ⟨n - 1, by omega⟩
    obtain ⟨r1, r2⟩ := sp_rng c hp
    by_cases hsM : sp c M p = M
    · rw [m_scan_end hM hp x hsM] at hsc
      cases hsc
      refine .inl ⟨i, nI M, nI M, 2, x, nI w, nI e, nu, per, dr, cap, inf, los, r, by omega, ?_, ?_, hT⟩
      · rw [f_Mo_readText_L23_s, if_pos rfl]
      · rw [CL_sp hM hc hp he, hsM, CL_end hM hm]
    · generalize hs' : sp c M p = q at r1 r2 hsM
      have hs : q < M := by omega
      have h32 : ¬ c q = 32 := by have := sp_no c hp (by omega); rw [hs'] at this; exact this
      have hr := te_rng c hs
      rw [m_scan_tok hM hp x hs' hs] at hsc
      cases hsc
      rw [CL_sp hM hc hp he, hs']
      -- a token that cannot stand
      have bad : f_Mo_readItem (nI M) (nI (te c M q)) (nI q) (ts c M q) (if dig c q = true then nI (tv c M q) else x) (nI i) (nI w) r c = some (0, nI (te c M q), nI q, ts c M q, (if dig c q = true then nI (tv c M q) else x), nI i, nI w, r) → (∃ y, CL M ya z1 m e q (-1) nu (nI i) (nI w) per dr cap inf los = some y ∧ CF M q y) → (∃ (f : Nat) (y : Sum YI YO) (a' t' s' v' i' w' : Int32) (r' : Nat → Int32), f ≤ M ∧ f_Mo_readText_L23 (nI M) c (n + 1) (nI (te c M q)) (nI q) (ts c M q) (if dig c q = true then nI (tv c M q) else x) (nI i) (nI w) r = some (.inr (nI f, a', t', s', v', i', w', r')) ∧ CL M ya z1 m e q (-1) nu (nI i) (nI w) per dr cap inf los = some y ∧ CF M f y) := by
        intro hb ⟨y, y1, y2⟩
        refine ⟨q, y, nI (te c M q), nI q, ts c M q, (if dig c q = true then nI (tv c M q) else x), nI i, nI w, r, by omega, ?_, y1, y2⟩
        rw [f_Mo_readText_L23_s, if_neg (ts_n2 c M q), hb, z_obs, if_pos rfl]
      by_cases hd : dig c q = true
      · refine .inr (bad (rI_no ?_ ..) (CL_no hM hc (by omega) hs h32 (tk_num hM hc hs hd (nu := nu) (.inl rfl) (b := 0) (nu' := nu) (per' := per) (dr' := dr) (cap' := cap) (inf' := inf) (los' := los) ?_) rfl))
        · rcases ts_dig (M := M) hd with ⟨h, -⟩ | h <;> rw [h] <;> decide
        · rw [f_Te_takesNumber, if_pos (by decide)]
      · by_cases h59 : c q = 59
        · refine .inr (bad (rI_no ?_ ..) (CL_no hM hc (by omega) hs h32 (tk_end hM hc hs hd h59 (nu := nu) (.inl rfl) (b := 0) (kd' := -1) (it' := nI i) ?_) rfl))
          · rw [ts_59 hd h59]; decide
          · rw [f_Te_takesEnd, if_pos (by decide)]
        · by_cases hx : ∃ k, k < 4 ∧ c q = sK k
          · obtain ⟨k, hk, ek⟩ := hx
            obtain ⟨q1, q2, q3, q4, q5, q6⟩ := q_rng hk
            have ete : te c M q = q + 1 := by unfold te; rw [if_neg hd]
            have ets : ts c M q = sK k := by
              unfold ts
              rw [if_neg hd, ek, if_pos]
              rcases k4 hk with rfl | rfl | rfl | rfl <;> decide
            by_cases hb : (nI w &&& kb k) = 0
            · obtain ⟨o1, o2⟩ := bitor w hw k hk
              have go := CL_go (m := m) (z1 := z1) (e := e) (nu := nu) (it := nI i) (per := per) (dr := dr) (cap := cap) (inf := inf) (los := los) hM hc (by omega) hs h32 (tk_kind hM hc hs hd h59 (.inr rfl) (by rw [ek]; exact tk_yes hk hw nu hb))
              obtain ⟨a2, t2, s2, v2, i1, i2⟩ := item_run (c := c) (ya := ya) (z1 := z1) (m := m) hM hc hm hk (M - te c M q) (te c M q) (Nat.le_refl _) hr.2 (te c M q) FU 0 (nI i) (nI w ||| kb k) per dr cap inf los r (if dig c q = true then nI (tv c M q) else x) (Nat.le_refl _) (Nat.zero_le _) (by decide) (hT.ir k)
              rw [go]
              rcases i2 with ⟨ν', p', t', v', per', dr', cap', inf', los', r', b1, b2, b3, b4, b5, b6, b7⟩ | ⟨f, y, f1, f2, f3, f4⟩
              · have hT' : TR per' dr' cap' inf' los' (if k = 0 then upd r' 0 (nI ν') else r') := by
                  by_cases h0 : k = 0
                  · subst h0; rw [if_pos rfl]; exact b6.tr0 (by omega) (by omega)
                  · rw [if_neg h0]; exact b6.trk h0
                obtain ⟨a3, t3, s3, v3, j1⟩ := m_scan_any (c := c) hM b5 v'
                have st : f_Mo_readText_L23 (nI M) c (n + 1) (nI (te c M q)) (nI q) (ts c M q) (if dig c q = true then nI (tv c M q) else x) (nI i) (nI w) r = f_Mo_readText_L23 (nI M) c n a3 t3 s3 v3 (nI (i + 1)) (nI (w ||| 2 ^ k)) (if k = 0 then upd r' 0 (nI ν') else r') := by
                  rw [f_Mo_readText_L23_s, if_neg (ts_n2 c M q), ets, rI_k hk, rI, if_pos hb, rN_S hk i1 b1 b2 b3, z_obs, if_neg (show ¬ (1 : Int32) = 0 by decide), if_pos rfl, z_obs, if_neg (show ¬ (1 : Int32) = 0 by decide), nI_1, o1]
                  show Option.bind (f_Mo_scan (nI M) (nI p') v' c) _ = _
                  rw [j1]; rfl
                rw [st]
                have b7' : CL M ya z1 m (te c M q) (te c M q) (nI k) (0 : Int32) (nI i) (nI w ||| kb k) per dr cap inf los = _ := b7
                rw [b7', nI_1, o1]
                exact ih p' (by omega) b5 p' n (i + 1) (w ||| 2 ^ k) (nI ν') per' dr' cap' inf' los' _ v' a3 t3 s3 v3 (Nat.le_refl _) (by omega) o2 (by omega) hT' j1
              · obtain ⟨b, a', s', v', r', g1, g2⟩ := rN_F hk i1 f4
                refine .inr ⟨f, y, a', nI f, s', v', nI i + 1, nI w ||| kb k, r', f1, ?_, f2, f3⟩
                have eI : f_Mo_readItem (nI M) (nI (te c M q)) (nI q) (ts c M q) (if dig c q = true then nI (tv c M q) else x) (nI i) (nI w) r c = some (0, a', nI f, s', v', nI i + 1, nI w ||| kb k, r') := by
                  rw [ets, rI_k hk, rI, if_pos hb, g1, z_obs]
                  rcases g2 with rfl | g2
                  · rw [if_pos rfl]
                  · by_cases hb0 : b = 0
                    · rw [if_pos hb0]
                    · rw [if_neg hb0, if_neg g2]
                rw [f_Mo_readText_L23_s, if_neg (ts_n2 c M q), eI, z_obs, if_pos rfl]
            · refine .inr (bad ?_ (CL_no hM hc (by omega) hs h32 (tk_kind hM hc hs hd h59 (nu := nu) (.inl rfl) (b := 0) (kd' := -1) (nu' := nu) (tl' := nI w) (by rw [ek]; exact tk_told hk hw nu hb)) rfl))
              rw [ets, rI_k hk, rI, if_neg hb]
          · have hno : ¬ (c q = 105 ∨ c q = 100 ∨ c q = 99 ∨ c q = 101) := by
              intro h
              rcases h with h | h | h | h
              · exact hx ⟨0, by decide, h⟩
              · exact hx ⟨1, by decide, h⟩
              · exact hx ⟨2, by decide, h⟩
              · exact hx ⟨3, by decide, h⟩
            have ets : ts c M q = 3 := by
              unfold ts
              rw [if_neg hd, if_neg]
              intro h
              rcases h with h | h | h | h | h
              · exact hno (.inl h)
              · exact hno (.inr (.inl h))
              · exact hno (.inr (.inr (.inl h)))
              · exact hno (.inr (.inr (.inr h)))
              · exact h59 h
            refine .inr (bad (rI_no ?_ ..) (CL_no hM hc (by omega) hs h32 (tk_kind hM hc hs hd h59 (nu := nu) (.inl rfl) (b := 0) (kd' := -1) (nu' := nu) (tl' := nI w) (tk_none hno nu (nI w))) rfl))
            rw [ets]; decide
end TEX
theorem m_begin_T : ∀ k n i (g : Nat → Int32), k < n → i + k = 30 → (∀ j, j < i → g j = if j = 0 then 1 else 0) → ∃ a g', f_Mo_begin_L2 n (nI i) g = some (a, g') ∧ ∀ j, j < 30 → g' j = if j = 0 then 1 else 0 := by
  intro k
  induction k with
  | zero =>
    intro n i g hn hi hg
    obtain ⟨n, rfl⟩ : ∃ q, n = q + 1 := ⟨n - 1, by omega⟩
    refine ⟨nI i, g, ?_, fun j hj => hg j (by omega)⟩
    rw [f_Mo_begin_L2_s, if_pos (show (30 : Int32) ≤ nI i from nI_le (a := 30) (by omega) (by omega))]
  | succ k ih =>
    intro n i g hn hi hg
    obtain ⟨n, rfl⟩ : ∃ q, n = q + 1 := ⟨n - 1, by omega⟩
    rw [f_Mo_begin_L2_s, if_neg (show ¬ (30 : Int32) ≤ nI i from nI_ge (b := 30) (by omega) (by decide)), if_neg (ixn (by omega) (by decide)), if_neg (ixn (by omega) (by decide)), nI_clamp (by omega), nI_1]
    by_cases h0 : i = 0
    · rw [if_pos (show nI i = (0 : Int32) by rw [h0]; rfl)]
      exact ih n (i + 1) _ (by omega) (by omega) (fun j hj => by
        have : j = i := by omega
        subst this; rw [upd_at, if_pos h0])
    · rw [if_neg (nI_ne0 (by omega) (by omega))]
      exact ih n (i + 1) _ (by omega) (by omega) (fun j hj => by
        by_cases e : j = i
        · subst e; rw [upd_at, if_neg h0]
        · rw [upd_ne e]; exact hg j (by omega))
theorem c_zero1 : ∀ k n i (g : Nat → Int32), k < n → i + k = 12 → (∀ j, j < i → g j = 0) → ∃ a g', f_Ba_becomeAsAtFirst_L2 n (nI i) g = some (a, g') ∧ ∀ j, j < 12 → g' j = 0 := by
  intro k
  induction k with
  | zero =>
    intro n i g hn hi hg
    obtain ⟨n, rfl⟩ : ∃ q, n = q + 1 := ⟨n - 1, by omega⟩
    refine ⟨nI i, g, ?_, fun j hj => hg j (by omega)⟩
    rw [f_Ba_becomeAsAtFirst_L2_s, if_pos (show (12 : Int32) ≤ nI i from nI_le (a := 12) (by omega) (by omega))]
  | succ k ih =>
    intro n i g hn hi hg
    obtain ⟨n, rfl⟩ : ∃ q, n = q + 1 := ⟨n - 1, by omega⟩
    rw [f_Ba_becomeAsAtFirst_L2_s, if_neg (show ¬ (12 : Int32) ≤ nI i from nI_ge (b := 12) (by omega) (by decide)), if_neg (ixn (by omega) (by decide)), nI_clamp (by omega), nI_1]
    exact ih n (i + 1) _ (by omega) (by omega) (fun j hj => by
      by_cases e : j = i
      · subst e; rw [upd_at]
      · rw [upd_ne e]; exact hg j (by omega))
theorem c_zero2 : ∀ k n i (g : Nat → Int32), k < n → i + k = 10 → (∀ j, j < i → g j = 0) → ∃ a g', f_Ba_becomeAsAtFirst_L23 n (nI i) g = some (a, g') ∧ ∀ j, j < 10 → g' j = 0 := by
  intro k
  induction k with
  | zero =>
    intro n i g hn hi hg
    obtain ⟨n, rfl⟩ : ∃ q, n = q + 1 := ⟨n - 1, by omega⟩
    refine ⟨nI i, g, ?_, fun j hj => hg j (by omega)⟩
    rw [f_Ba_becomeAsAtFirst_L23_s, if_pos (show (10 : Int32) ≤ nI i from nI_le (a := 10) (by omega) (by omega))]
  | succ k ih =>
    intro n i g hn hi hg
    obtain ⟨n, rfl⟩ : ∃ q, n = q + 1 := ⟨n - 1, by omega⟩
    rw [f_Ba_becomeAsAtFirst_L23_s, if_neg (show ¬ (10 : Int32) ≤ nI i from nI_ge (b := 10) (by omega) (by decide)), if_neg (ixn (by omega) (by decide)), nI_clamp (by omega), nI_1]
    exact ih n (i + 1) _ (by omega) (by omega) (fun j hj => by
      by_cases e : j = i
      · subst e; rw [upd_at]
      · rw [upd_ne e]; exact hg j (by omega))
theorem cp30 (f g : Nat → Int32) {i : Nat} (h : i < 30) : va_cpy f g 0 0 30 i = f i := by
  rw [pk_cpy_in (by omega) (by omega)]; congr 1; omega
/-- what a text tells, read to its end -/
theorem TR.fin {per dr cap : Int32} {inf los r : Nat → Int32} (h : TR per dr cap inf los r) : RowB per dr cap 0 cap 0 0 0 inf los (upd r 26 (r 14)) ∧ RowV (upd r 26 (r 14)) := by
  obtain ⟨⟨a0, a1, a2, a3, a4, a5, a6, a7, ai, al⟩, ⟨N, bN1, bN2, bN3⟩, ⟨D, b1, b2⟩, ⟨K, b3, b4⟩, bf, bl⟩ := h
  have u : ∀ {j}, j ≠ 26 → upd r 26 (r 14) j = r j := fun hj => upd_ne hj
  refine ⟨⟨(u (by omega)).trans a0, (u (by omega)).trans a1, (u (by omega)).trans a2, (u (by omega)).trans a3, (upd_at ..).trans a2, (u (by omega)).trans a5, (u (by omega)).trans a6, (u (by omega)).trans a7, fun i hi => (u (by omega)).trans (ai i hi), fun i hi => (u (by omega)).trans (al i hi)⟩, ⟨N, bN1, bN2, (u (by omega)).trans bN3⟩, ⟨D, b1, (u (by omega)).trans b2⟩, ⟨K, K, Nat.le_refl _, b3, (u (by omega)).trans b4, (upd_at ..).trans b4⟩, ⟨0, by omega, (u (by omega)).trans a3⟩, fun i hi => ?_, fun i hi => ?_⟩
  · obtain ⟨f, x, y⟩ := bf i hi; exact ⟨f, x, (u (by omega)).trans y⟩
  · obtain ⟨f, x, y⟩ := bl i hi; exact ⟨f, x, (u (by omega)).trans y⟩
theorem neg10 {f : Nat} (h : f ≤ 120) : ¬ (0 : Int32) ≤ -10 - nI f := by
  rw [show (-10 : Int32) = iI (-10) from rfl, ← iI_nat, iI_sub]
  intro q
  have := (iI_pos0 (by omega) (by omega)).mp q
  omega
theorem pl_tells (X : Nat → Int32) (Y ri rl rf : Nat → Nat → Int32) (im : Nat → Option Nat) (vi vl vf : Nat → Nat → Int32) (U : Nat → Int32) (V : Nat → Nat → Int32) (Z : Nat → Int64) (h : Rel X Y ri rl rf im vi vl vf U V Z) : ∃ (out : Int32 × Int32 × Int32 × Int32 × Int32 × Int32 × Int32 × Int32 × Int32 × (Nat → Int32) × (Nat → Int32) × Int32 × Int32 × Int32 × Int32 × Int32 × Int32 × Int32 × Int32 × (Nat → Int32) × (Nat → Int32) × Int32 × Int32 × Int32 × Int32 × Int32 × Int32 × Int32 × (Nat → Nat → Int32) × (Nat → Nat → Int32) × (Nat → Nat → Int32)) (mout : Int32 × Int32 × Int32 × Int32 × Int32 × Int32 × Int32 × Int32 × Int32 × (Nat → Int32) × (Nat → Int32) × (Nat → Int32)), f_Ye_tells (X 0) (X 1) (X 2) (X 3) (X 4) (X 5) (X 6) (X 7) (Y 0) (Y 1) (Y 2) (Y 3) (X 16) (Y 4) (X 21) (X 22) ri rl rf = some out ∧ f_Mo_tells (U 0) (U 2) (U 6) (V 0) (V 1) (V 2) (V 7) = some mout ∧ out.1 = mout.1 ∧ Rel (va_up (va_up (va_up (va_up (va_up (va_up (va_up (va_up (va_up (va_up (va_up (va_up (va_up (va_up (va_up (va_up (va_up (va_up (va_up (va_up (va_up (va_up (va_up X 0 out.2.1) 1 out.2.2.1) 2 out.2.2.2.1) 3 out.2.2.2.2.1) 4 out.2.2.2.2.2.1) 5 out.2.2.2.2.2.2.1) 6 out.2.2.2.2.2.2.2.1) 7 out.2.2.2.2.2.2.2.2.1) 8 out.2.2.2.2.2.2.2.2.2.2.2.1) 9 out.2.2.2.2.2.2.2.2.2.2.2.2.1) 10 out.2.2.2.2.2.2.2.2.2.2.2.2.2.1) 11 out.2.2.2.2.2.2.2.2.2.2.2.2.2.2.1) 12 out.2.2.2.2.2.2.2.2.2.2.2.2.2.2.2.1) 13 out.2.2.2.2.2.2.2.2.2.2.2.2.2.2.2.2.1) 14 out.2.2.2.2.2.2.2.2.2.2.2.2.2.2.2.2.2.1) 15 out.2.2.2.2.2.2.2.2.2.2.2.2.2.2.2.2.2.2.1) 16 out.2.2.2.2.2.2.2.2.2.2.2.2.2.2.2.2.2.2.2.2.2.1) 17 out.2.2.2.2.2.2.2.2.2.2.2.2.2.2.2.2.2.2.2.2.2.2.1) 18 out.2.2.2.2.2.2.2.2.2.2.2.2.2.2.2.2.2.2.2.2.2.2.2.1) 19 out.2.2.2.2.2.2.2.2.2.2.2.2.2.2.2.2.2.2.2.2.2.2.2.2.1) 20 out.2.2.2.2.2.2.2.2.2.2.2.2.2.2.2.2.2.2.2.2.2.2.2.2.2.1) 21 out.2.2.2.2.2.2.2.2.2.2.2.2.2.2.2.2.2.2.2.2.2.2.2.2.2.2.1) 22 out.2.2.2.2.2.2.2.2.2.2.2.2.2.2.2.2.2.2.2.2.2.2.2.2.2.2.2.1) (va_up (va_up (va_up (va_up Y 0 out.2.2.2.2.2.2.2.2.2.1) 1 out.2.2.2.2.2.2.2.2.2.2.1) 2 out.2.2.2.2.2.2.2.2.2.2.2.2.2.2.2.2.2.2.2.1) 3 out.2.2.2.2.2.2.2.2.2.2.2.2.2.2.2.2.2.2.2.2.1) out.2.2.2.2.2.2.2.2.2.2.2.2.2.2.2.2.2.2.2.2.2.2.2.2.2.2.2.2.1 out.2.2.2.2.2.2.2.2.2.2.2.2.2.2.2.2.2.2.2.2.2.2.2.2.2.2.2.2.2.1 out.2.2.2.2.2.2.2.2.2.2.2.2.2.2.2.2.2.2.2.2.2.2.2.2.2.2.2.2.2.2 im vi vl vf (va_up (va_up (va_up (va_up (va_up (va_up (va_up (va_up U 0 mout.2.1) 2 mout.2.2.1) 3 mout.2.2.2.1) 4 mout.2.2.2.2.1) 5 mout.2.2.2.2.2.1) 6 mout.2.2.2.2.2.2.1) 7 mout.2.2.2.2.2.2.2.1) 8 mout.2.2.2.2.2.2.2.2.1) (va_up (va_up (va_up V 0 mout.2.2.2.2.2.2.2.2.2.1) 1 mout.2.2.2.2.2.2.2.2.2.2.1) 2 mout.2.2.2.2.2.2.2.2.2.2.2) Z := by
  have h0 := h
  obtain ⟨⟨hB, hV⟩, hT, hH, hl0, hS, hI⟩ := h
  obtain ⟨M, hM, em1, em2, hc⟩ := hT
  obtain ⟨z0, g0, d1, d2⟩ := m_begin_T 30 FU 0 (V 1) (by decide) (by decide) (fun j hj => absurd hj (by omega))
  have d1' : f_Mo_begin_L2 FU (0 : Int32) (V 1) = some (z0, g0) := d1
  obtain ⟨y1, i0, c1, c2⟩ := c_zero1 12 FU 0 (Y 2) (by decide) (by decide) (fun j hj => absurd hj (by omega))
  have c1' : f_Ba_becomeAsAtFirst_L2 FU (0 : Int32) (Y 2) = some (y1, i0) := c1
  obtain ⟨y2, l0, k1, k2⟩ := c_zero2 10 FU 0 (Y 3) (by decide) (by decide) (fun j hj => absurd hj (by omega))
  have k1' : f_Ba_becomeAsAtFirst_L23 FU (0 : Int32) (Y 3) = some (y2, l0) := k1
  obtain ⟨a, t, s, v, sc⟩ := m_scan_any (c := V 7) hM (Nat.zero_le M) (U 6)
  have sc' : f_Mo_scan (nI M) (0 : Int32) (U 6) (V 7) = some (a, t, s, v) := sc
  have hTR : TR 1 0 0 i0 l0 g0 := by
    refine ⟨⟨d2 0 (by decide), d2 13 (by decide), d2 14 (by decide), d2 25 (by decide), d2 26 (by decide), d2 27 (by decide), d2 28 (by decide), d2 29 (by decide), fun i hi => ?_, fun i hi => ?_⟩, ⟨1, by decide, by decide, d2 0 (by decide)⟩, ⟨0, by decide, d2 13 (by decide)⟩, ⟨0, by decide, d2 14 (by decide)⟩, fun i hi => ⟨0, by decide, ?_⟩, fun i hi => ⟨0, by decide, ?_⟩⟩
    · rw [d2 _ (by omega), if_neg (by omega), c2 i hi]
    · rw [d2 _ (by omega), if_neg (by omega), k2 i hi]
    · rw [d2 _ (by omega), if_neg (by omega)]; rfl
    · rw [d2 _ (by omega), if_neg (by omega)]; rfl
  have hb : f_Ba_becomeAsAtFirst (Y 2) (Y 3) = some (1, 0, 0, 0, 0, 0, 0, 0, i0, l0) := by rw [f_Ba_becomeAsAtFirst, c1', z_obs, k1']; rfl
  have run := text_run (c := V 7) (ya := Y 4) (M := M) (m := FU - M) (z1 := (1, 0, 0, 0, 0, 0, 0, 0, i0, l0)) hM hc (by unfold FU; omega) M 0 (by omega) (Nat.zero_le _) 0 FU 0 0 0 1 0 0 i0 l0 g0 (U 6) a t s v (Nat.le_refl _) (Nat.le_refl _) (by decide) (by unfold FU; omega) hTR sc
  have eCL : CL M (Y 4) (1, 0, 0, 0, 0, 0, 0, 0, i0, l0) (FU - M) 0 0 (-1) 0 (nI 0) (nI 0) 1 0 0 i0 l0 = f_Te_readInto_L28 (nI M) (Y 4) (1, 0, 0, 0, 0, 0, 0, 0, i0, l0) FU (0 : Int32) (0 : Int32) (-1) (0 : Int32) (0 : Int32) (0 : Int32) 1 0 0 i0 l0 := by
    rw [CL, show FU - M + (M - 0) = FU by unfold FU; omega]; rfl
  rw [eCL] at run
  rcases run with ⟨i', a', t', s', v', w', e', nu', per', dr', cap', inf', los', r', hi', m1, c3, hF⟩ | ⟨f, y, a', t', s', v', i', w', r', hf, m1, c3, hCF⟩
  · have m1' : f_Mo_readText_L23 (nI M) (V 7) FU a t s v (0 : Int32) (0 : Int32) g0 = _ := m1
    obtain ⟨oy, om, ey, em, hH'⟩ := his_push hH hB hV
    obtain ⟨fB, fV⟩ := hF.fin
    have ci : f_Te_readInto (X 16) (Y 4) (Y 2) (Y 3) = some (nI i', -1, nu', nI i', w', per', dr', cap', 0, cap', 0, 0, 0, inf', los') := by
      rw [em1, f_Te_readInto, hb, z_obs]
      show Option.bind (f_Te_readInto_L28 (nI M) (Y 4) (1, 0, 0, 0, 0, 0, 0, 0, i0, l0) FU (0 : Int32) (0 : Int32) (-1) (0 : Int32) (0 : Int32) (0 : Int32) 1 0 0 i0 l0) _ = _
      rw [c3, z_obs, Sum.elim_inl, if_pos rfl]
    have mi : f_Mo_readText (U 2) (U 6) (V 1) (V 7) = some (-9, a', t', s', v', nI i', w', upd r' 26 (r' 14)) := by
      rw [em2, f_Mo_readText, f_Mo_begin, d1', z_obs, z_obs, sc', z_obs]
      show Option.bind (f_Mo_readText_L23 (nI M) (V 7) FU a t s v (0 : Int32) (0 : Int32) g0) _ = _
      rw [m1', z_obs]; rfl
    have br : f_Mo_bring 30 (upd r' 26 (r' 14)) (0 : Int32) 30 (V 0) (0 : Int32) = some (va_cpy (upd r' 26 (r' 14)) (V 0) 0 0 30) := m_bring 30 _ 0 30 _ 0 (by decide) (by decide) (by decide) (by decide)
    have ec : f_Ye_tells (X 0) (X 1) (X 2) (X 3) (X 4) (X 5) (X 6) (X 7) (Y 0) (Y 1) (Y 2) (Y 3) (X 16) (Y 4) (X 21) (X 22) ri rl rf = some (nI i', per', dr', cap', 0, cap', 0, 0, 0, (va_cpy inf' (Y 0) (0 : Int32).toNatClampNeg (0 : Int32).toNatClampNeg (12 : Int32).toNatClampNeg), (va_cpy los' (Y 1) (0 : Int32).toNatClampNeg (0 : Int32).toNatClampNeg (10 : Int32).toNatClampNeg), per', dr', cap', 0, cap', 0, 0, 0, inf', los', 0, -1, nu', nI i', w', oy.1, oy.2.1, oy.2.2.1, oy.2.2.2.1, oy.2.2.2.2) := by
      rw [f_Ye_tells, ci, z_obs, if_pos (show (0 : Int32) ≤ nI i' from nI_pos' (by omega)), ey]; rfl
    have emm : f_Mo_tells (U 0) (U 2) (U 6) (V 0) (V 1) (V 2) (V 7) = some (nI i', om.1, 0, a', t', s', v', nI i', w', va_cpy (upd r' 26 (r' 14)) (V 0) 0 0 30, upd r' 26 (r' 14), om.2) := by
      rw [f_Mo_tells, mi, z_obs, if_pos rfl, em, z_obs]
      show Option.bind (f_Mo_bring 30 (upd r' 26 (r' 14)) (0 : Int32) 30 (V 0) (0 : Int32)) _ = _
      rw [br]; rfl
    refine ⟨_, _, ec, emm, rfl, ?_⟩
    refine ⟨⟨?_, ?_⟩, ⟨0, by decide, rfl, rfl, fun i hi => absurd hi (by omega)⟩, hH', hl0, hS, hI⟩
    · exact (fB.cpy (Y 0) (Y 1)).congr (fun i hi => cp30 _ _ hi)
    · exact fV.congr (fun i hi => cp30 _ _ hi)
  · have m1' : f_Mo_readText_L23 (nI M) (V 7) FU a t s v (0 : Int32) (0 : Int32) g0 = _ := m1
    have ci : ∃ z : YO, f_Te_readInto (X 16) (Y 4) (Y 2) (Y 3) = some z ∧ z.1 = -10 - nI f := by
      rw [em1, f_Te_readInto, hb, z_obs]
      cases y with
      | inl x6 =>
        obtain ⟨rfl, hk⟩ := hCF
        refine ⟨(-10 - nI f, x6.2.2.1, x6.2.2.2.1, x6.2.2.2.2.1, x6.2.2.2.2.2.1, x6.2.2.2.2.2.2.1, x6.2.2.2.2.2.2.2.1, x6.2.2.2.2.2.2.2.2.1, 0, 0, 0, 0, 0, x6.2.2.2.2.2.2.2.2.2.1, x6.2.2.2.2.2.2.2.2.2.2), ?_, rfl⟩
        · show Option.bind (f_Te_readInto_L28 (nI f) (Y 4) (1, 0, 0, 0, 0, 0, 0, 0, i0, l0) FU (0 : Int32) (0 : Int32) (-1) (0 : Int32) (0 : Int32) (0 : Int32) 1 0 0 i0 l0) _ = _
          rw [c3, z_obs, Sum.elim_inl, if_neg hk]
      | inr t => 
        refine ⟨t, ?_, hCF⟩
        show Option.bind (f_Te_readInto_L28 (nI M) (Y 4) (1, 0, 0, 0, 0, 0, 0, 0, i0, l0) FU (0 : Int32) (0 : Int32) (-1) (0 : Int32) (0 : Int32) (0 : Int32) 1 0 0 i0 l0) _ = _
        rw [c3]; rfl
    obtain ⟨z, ci, hz⟩ := ci
    have mi : f_Mo_readText (U 2) (U 6) (V 1) (V 7) = some (nI f, a', t', s', v', i', w', r') := by
      rw [em2, f_Mo_readText, f_Mo_begin, d1', z_obs, z_obs, sc', z_obs]
      show Option.bind (f_Mo_readText_L23 (nI M) (V 7) FU a t s v (0 : Int32) (0 : Int32) g0) _ = _
      rw [m1', z_obs]; rfl
    have ec : f_Ye_tells (X 0) (X 1) (X 2) (X 3) (X 4) (X 5) (X 6) (X 7) (Y 0) (Y 1) (Y 2) (Y 3) (X 16) (Y 4) (X 21) (X 22) ri rl rf = some (z.1, X 0, X 1, X 2, X 3, X 4, X 5, X 6, X 7, Y 0, Y 1, z.2.2.2.2.2.1, z.2.2.2.2.2.2.1, z.2.2.2.2.2.2.2.1, z.2.2.2.2.2.2.2.2.1, z.2.2.2.2.2.2.2.2.2.1, z.2.2.2.2.2.2.2.2.2.2.1, z.2.2.2.2.2.2.2.2.2.2.2.1, z.2.2.2.2.2.2.2.2.2.2.2.2.1, z.2.2.2.2.2.2.2.2.2.2.2.2.2.1, z.2.2.2.2.2.2.2.2.2.2.2.2.2.2, X 16, z.2.1, z.2.2.1, z.2.2.2.1, z.2.2.2.2.1, X 21, X 22, ri, rl, rf) := by
      rw [f_Ye_tells, ci, z_obs, if_neg (show ¬ (0 : Int32) ≤ z.1 by rw [hz]; exact neg10 (by omega))]
    have emm : f_Mo_tells (U 0) (U 2) (U 6) (V 0) (V 1) (V 2) (V 7) = some (-10 - nI f, U 0, U 2, a', t', s', v', i', w', V 0, r', V 2) := by
      rw [f_Mo_tells, mi, z_obs, if_neg (show ¬ nI f = (-9 : Int32) from nI_nm (by omega) _ (by decide))]
    exact ⟨_, _, ec, emm, hz, ⟨hB, hV⟩, ⟨M, hM, em1, em2, hc⟩, hH, hl0, hS, hI⟩
