set_option maxHeartbeats 4000000 in
set_option maxRecDepth 100000 in
theorem law_EK {p : Program} {s : State} {m : MethodId} {meth : Method} {c : Code} {b L : Nat} {xs : Nat → Int32} (C0 : lw_At p s m meth c b L xs) : ∃ (G : va_G) (cy : Nat → ClassId) (kz : Nat → Nat), EK G cy kz s.heap.size s := by
  obtain ⟨hx, hb, hr, hml, hown, hts, hX, hbl, hlocks, hgv⟩ := C0
  have hB : ∀ w ∈ BW, w.before #[Value.ref b] s = true := fun w hw => hts w (List.mem_filter.mp hw).1
  obtain ⟨c0, iS0, hKn0⟩ := u_known (C := "YieldDesk$Basin") (T := F_Ba) (N := 10) (n := 10) hB fi_Ba (hB _ m_21)
  obtain ⟨c1, iS1, hKn1⟩ := u_known (C := "YieldDesk$Fraction") (T := F_Fr) (N := 2) (n := 2) hB fi_Fr (hB _ m_127)
  obtain ⟨c2, iS2, hKn2⟩ := u_known (C := "YieldDesk$FullRuns") (T := F_Fu) (N := 4) (n := 4) hB fi_Fu (hB _ m_155)
  obtain ⟨c3, iS3, hKn3⟩ := u_known (C := "YieldDesk$History") (T := F_Hi) (N := 3) (n := 3) hB fi_Hi (hB _ m_101)
  obtain ⟨c4, iS4, hKn4⟩ := u_known (C := "YieldDesk$Lines") (T := F_Li) (N := 4) (n := 4) hB fi_Li (hB _ m_121)
  obtain ⟨c5, iS5, hKn5⟩ := u_known (C := "YieldDesk$Sightings") (T := F_Si) (N := 7) (n := 7) hB fi_Si (hB _ m_177)
  obtain ⟨c6, iS6, hKn6⟩ := u_known (C := "YieldDesk$TellText") (T := F_Te) (N := 6) (n := 6) hB fi_Te (hB _ m_75)
  obtain ⟨c7, iS7, hKn7⟩ := u_known (C := "YieldDesk") (T := F_Ye) (N := 9) (n := 9) hB fi_Ye (hB _ m_13)
  obtain ⟨c8, iS8, hKn8⟩ := u_known (C := "YieldDeskModel") (T := F_Mo) (N := 25) (n := 25) hB fi_Mo (hB _ m_626)
  obtain ⟨G, hKc⟩ : ∃ (G : va_G), ∀ (k : Nat) (q : vw_C), classes[k]? = some q → u_Kn s q.1 q.2.1 q.2.2 (G.1 k) (G.2 k) := by
    refine ⟨(fun k => if k = 0 then c0 else if k = 1 then c1 else if k = 2 then c2 else if k = 3 then c3 else if k = 4 then c4 else if k = 5 then c5 else if k = 6 then c6 else if k = 7 then c7 else c8, fun k => if k = 0 then iS0 else if k = 1 then iS1 else if k = 2 then iS2 else if k = 3 then iS3 else if k = 4 then iS4 else if k = 5 then iS5 else if k = 6 then iS6 else if k = 7 then iS7 else iS8), ?_⟩
    intro k q hq
    match k, hq with
    | 0, hq => cases hq; exact hKn0
    | 1, hq => cases hq; exact hKn1
    | 2, hq => cases hq; exact hKn2
    | 3, hq => cases hq; exact hKn3
    | 4, hq => cases hq; exact hKn4
    | 5, hq => cases hq; exact hKn5
    | 6, hq => cases hq; exact hKn6
    | 7, hq => cases hq; exact hKn7
    | 8, hq => cases hq; exact hKn8
    | k + 9, hq => simp [classes] at hq
  obtain ⟨a0, k0, p0, e0, f0, g0⟩ := Cond.arrayClass_spec (hB _ m_73)
  obtain ⟨a1, k1, p1, e1, f1, g1⟩ := Cond.arrayClass_spec (hB _ m_714)
  have hAO : va_AO "YieldDesk$Basin" s := va_AO.of (hts (Cond.arrayOver (.object "YieldDesk$Basin")) (by decide +kernel))
  obtain ⟨p2, a2, k2, d2, -, f2, g2, e2⟩ := Cond.arrayOver_spec hAO
  have hs := flat_of_before _ hgv
  obtain ⟨t0, ht0, hT0⟩ := va_Tof (tm := (Term.static "YieldDesk$TellText" "KINDS" "[C")) (ty := .char) (N := 4) (f := fun j => .int (sK j)) (A := fun q : Nat => s.heap.size ≤ q) (by decide) (hs (Cond.arrayOf (Term.static "YieldDesk$TellText" "KINDS" "[C") .char) (by decide +kernel)) (va_eqt (z := 4) (hs _ (by decide +kernel))) (by
    intro j hj
    match j, hj with
    | 0, _ => exact va_eqt (t := .elem (Term.static "YieldDesk$TellText" "KINDS" "[C") (.int 0)) (z := 105) (hs _ (by decide +kernel))
    | 1, _ => exact va_eqt (t := .elem (Term.static "YieldDesk$TellText" "KINDS" "[C") (.int 1)) (z := 100) (hs _ (by decide +kernel))
    | 2, _ => exact va_eqt (t := .elem (Term.static "YieldDesk$TellText" "KINDS" "[C") (.int 2)) (z := 99) (hs _ (by decide +kernel))
    | 3, _ => exact va_eqt (t := .elem (Term.static "YieldDesk$TellText" "KINDS" "[C") (.int 3)) (z := 101) (hs _ (by decide +kernel))
    | j + 4, hj => exact absurd hj (by omega)) (fun a h => Nat.not_le.mpr h)
  have hZ0 := va_Zref (A := fun q : Nat => s.heap.size ≤ q) (hts (Cond.laysStatic "YieldDesk$TellText" "KINDS" "[C") (by decide +kernel)) (hB _ m_3) ht0 (fun a h => Nat.not_le.mpr h)
  obtain ⟨t1, ht1, hT1⟩ := va_Tof (tm := (Term.static "YieldDesk$TellText" "FEWEST" "[I")) (ty := .int) (N := 4) (f := fun j => .int (sF j)) (A := fun q : Nat => s.heap.size ≤ q) (by decide) (hs (Cond.arrayOf (Term.static "YieldDesk$TellText" "FEWEST" "[I") .int) (by decide +kernel)) (va_eqt (z := 4) (hs _ (by decide +kernel))) (by
    intro j hj
    match j, hj with
    | 0, _ => exact va_eqt (t := .elem (Term.static "YieldDesk$TellText" "FEWEST" "[I") (.int 0)) (z := 1) (hs _ (by decide +kernel))
    | 1, _ => exact va_eqt (t := .elem (Term.static "YieldDesk$TellText" "FEWEST" "[I") (.int 1)) (z := 1) (hs _ (by decide +kernel))
    | 2, _ => exact va_eqt (t := .elem (Term.static "YieldDesk$TellText" "FEWEST" "[I") (.int 2)) (z := 1) (hs _ (by decide +kernel))
    | 3, _ => exact va_eqt (t := .elem (Term.static "YieldDesk$TellText" "FEWEST" "[I") (.int 3)) (z := 10) (hs _ (by decide +kernel))
    | j + 4, hj => exact absurd hj (by omega)) (fun a h => Nat.not_le.mpr h)
  have hZ1 := va_Zref (A := fun q : Nat => s.heap.size ≤ q) (hts (Cond.laysStatic "YieldDesk$TellText" "FEWEST" "[I") (by decide +kernel)) (hB _ m_3) ht1 (fun a h => Nat.not_le.mpr h)
  obtain ⟨t2, ht2, hT2⟩ := va_Tof (tm := (Term.static "YieldDesk$TellText" "MOST" "[I")) (ty := .int) (N := 4) (f := fun j => .int (sM j)) (A := fun q : Nat => s.heap.size ≤ q) (by decide) (hs (Cond.arrayOf (Term.static "YieldDesk$TellText" "MOST" "[I") .int) (by decide +kernel)) (va_eqt (z := 4) (hs _ (by decide +kernel))) (by
    intro j hj
    match j, hj with
    | 0, _ => exact va_eqt (t := .elem (Term.static "YieldDesk$TellText" "MOST" "[I") (.int 0)) (z := 12) (hs _ (by decide +kernel))
    | 1, _ => exact va_eqt (t := .elem (Term.static "YieldDesk$TellText" "MOST" "[I") (.int 1)) (z := 1) (hs _ (by decide +kernel))
    | 2, _ => exact va_eqt (t := .elem (Term.static "YieldDesk$TellText" "MOST" "[I") (.int 2)) (z := 1) (hs _ (by decide +kernel))
    | 3, _ => exact va_eqt (t := .elem (Term.static "YieldDesk$TellText" "MOST" "[I") (.int 3)) (z := 10) (hs _ (by decide +kernel))
    | j + 4, hj => exact absurd hj (by omega)) (fun a h => Nat.not_le.mpr h)
  have hZ2 := va_Zref (A := fun q : Nat => s.heap.size ≤ q) (hts (Cond.laysStatic "YieldDesk$TellText" "MOST" "[I") (by decide +kernel)) (hB _ m_3) ht2 (fun a h => Nat.not_le.mpr h)
  obtain ⟨t3, ht3, hT3⟩ := va_Tof (tm := (Term.static "YieldDesk$TellText" "GREATEST" "[I")) (ty := .int) (N := 4) (f := fun j => .int (sG j)) (A := fun q : Nat => s.heap.size ≤ q) (by decide) (hs (Cond.arrayOf (Term.static "YieldDesk$TellText" "GREATEST" "[I") .int) (by decide +kernel)) (va_eqt (z := 4) (hs _ (by decide +kernel))) (by
    intro j hj
    match j, hj with
    | 0, _ => exact va_eqt (t := .elem (Term.static "YieldDesk$TellText" "GREATEST" "[I") (.int 0)) (z := 99) (hs _ (by decide +kernel))
    | 1, _ => exact va_eqt (t := .elem (Term.static "YieldDesk$TellText" "GREATEST" "[I") (.int 1)) (z := 99) (hs _ (by decide +kernel))
    | 2, _ => exact va_eqt (t := .elem (Term.static "YieldDesk$TellText" "GREATEST" "[I") (.int 2)) (z := 999) (hs _ (by decide +kernel))
    | 3, _ => exact va_eqt (t := .elem (Term.static "YieldDesk$TellText" "GREATEST" "[I") (.int 3)) (z := 9) (hs _ (by decide +kernel))
    | j + 4, hj => exact absurd hj (by omega)) (fun a h => Nat.not_le.mpr h)
  have hZ3 := va_Zref (A := fun q : Nat => s.heap.size ≤ q) (hts (Cond.laysStatic "YieldDesk$TellText" "GREATEST" "[I") (by decide +kernel)) (hB _ m_3) ht3 (fun a h => Nat.not_le.mpr h)
  refine ⟨G, fun k => if k = 0 then a0 else if k = 1 then a1 else a2, fun k => if k = 0 then t0 else if k = 1 then t1 else if k = 2 then t2 else t3, ⟨hKc, ?_⟩, ⟨fun q hq => va_Nw.of rfl (hts _ (nestW_in _ (List.mem_append_left _ (List.mem_map_of_mem hq)))), fun q hq => va_Nw.of rfl (hts _ (nestW_in _ (List.mem_append_right _ (List.mem_map_of_mem hq))))⟩, hAO, ⟨hZ0, hT0⟩, ⟨hZ1, hT1⟩, ⟨hZ2, hT2⟩, ⟨hZ3, hT3⟩⟩
  intro k q hk
  match k, hk with
  | 0, hk => cases hk; exact ⟨fun n z => ⟨fun k h => (by cases h), k0, f0, p0, g0⟩, e0⟩
  | 1, hk => cases hk; exact ⟨fun n z => ⟨fun k h => (by cases h), k1, f1, p1, g1⟩, e1⟩
  | 2, hk => cases hk; exact ⟨fun n z => ⟨fun k h => (by cases h), k2, f2, p2, g2⟩, k2, p2, f2, g2, d2, e2⟩
  | k + 3, hk => simp at hk
set_option maxHeartbeats 4000000 in
set_option maxRecDepth 100000 in
theorem law_loop {p : Program} {l : Launch} {e : Env} {s : State} {m : MethodId} {below : List Frame} {meth : Method} {c : Code} {G : va_G} {cy : Nat → ClassId} {kz : Nat → Nat} {b L : Nat} {xs : Nat → Int32} (hL : L ≤ 2048) (C0 : lw_At p s m meth c b L xs) (hE : EK G cy kz s.heap.size s) : ∀ (n i cells slots : Nat), i ≤ L → L + 1 ≤ i + 4 * n → cells + 3 * n ≤ 600000 → slots + 32 * n ≤ 7302250 → LW p l e s m below meth c G cy b 18 i cells slots := by
  intro n
  induction n with
  | zero => intro i cells slots h1 h2; omega
  | succ n ih =>
    intro i cells slots hi hin hc hs
    have K : i + 4 ≤ L → LW p l e s m below meth c G cy b 733 i (cells + 3) (slots + 32) := by
      intro hi4 A ra rb rc im qa qb X Y ri rl rf vi vl vf B U V Z hR H locs hP hD hS ls hl
      obtain ⟨hx, hb, hr, hml, hown, hts, hX, hbl, hlocks, hgv⟩ := id C0
      have hown : s.vm.findClass "YieldDeskLaw" = some m.cls := hown
      have hB : ∀ w ∈ BW, w.before #[Value.ref b] s = true := fun w hw => hts w (List.mem_filter.mp hw).1
      have hA : ∀ q : Nat, s.heap.size ≤ q → (fun q : Nat => s.heap.size ≤ q) q := fun _ h => h
      have hNA : ∀ q : Nat, (fun q : Nat => s.heap.size ≤ q) q → s.heap.size ≤ q := fun _ h => h
      have hbA : ¬ (fun q : Nat => s.heap.size ≤ q) b := Nat.not_le.mpr hbl
      have hN : s.heap.size ≤ s.heap.size := Nat.le_refl _
      refine lv_iinc (v := nI (i + 4)) (lv' := [(3, .int (nI (i + 4))), (0, .ref b), (1, .ref (A 0)), (2, .ref (B 0))]) hx hb d_La_law_733 hl (k := 3) rfl (nI_add i 4) (by decide) rfl (fun ls hl => ?_)
      refine lv_goto (tgt := 18) hx hb d_La_law_736 (by decide) ?_
      exact ih (i + 4) (cells + 3) (slots + 32) (by omega) (by omega) (by omega) (by omega) A ra rb rc im qa qb X Y ri rl rf vi vl vf B U V Z hR _ _ hP hD hS _ (lv_sub hl [1, 2, 3, 0] rfl)
    intro A ra rb rc im qa qb X Y ri rl rf vi vl vf B U V Z hR H locs hP hD hS ls hl
    obtain ⟨hx, hb, hr, hml, hown, hts, hX, hbl, hlocks, hgv⟩ := id C0
    have hown : s.vm.findClass "YieldDeskLaw" = some m.cls := hown
    have hB : ∀ w ∈ BW, w.before #[Value.ref b] s = true := fun w hw => hts w (List.mem_filter.mp hw).1
    have hA : ∀ q : Nat, s.heap.size ≤ q → (fun q : Nat => s.heap.size ≤ q) q := fun _ h => h
    have hNA : ∀ q : Nat, (fun q : Nat => s.heap.size ≤ q) q → s.heap.size ≤ q := fun _ h => h
    have hbA : ¬ (fun q : Nat => s.heap.size ≤ q) b := Nat.not_le.mpr hbl
    have hN : s.heap.size ≤ s.heap.size := Nat.le_refl _
    refine lv_iload_n hx hb d_La_law_18 rfl (lv_at hl 3 rfl) ?_
    refine lv_aload_n hx hb d_La_law_19 rfl (lv_at hl 0 rfl) ?_
    refine va_slen hx hb hX hbl hbA hS d_La_law_20 ?_
    refine lv_iconst (v := (4 : Int32)) hx hb d_La_law_21 (by decide) ?_
    refine lv_isub hx hb d_La_law_22 ?_
    have hcmp : (nI L - nI 4 < nI i) ↔ (L : Int) - 4 < i := by rw [Int32.lt_iff_toInt_lt, pk_sub_toInt (by omega) (by decide), nI_toInt (by omega)]; rfl
    refine lv_icmp_gt (tgt := 739) hx hb d_La_law_23 (by decide) (fun h1 => ?_) (fun h1 => ?_)
    · refine lv_iconst (v := (1 : Int32)) hx hb d_La_law_739 (by decide) ?_
      refine va_forget (fun q hq => hS.2.2 q hq) ?_
      refine W.widen (k := 600000) (n := 7302250) (by omega) (by omega) ?_
      exact lw_ret hx hb hr hlocks d_La_law_740
    have h5 : ¬ ((L : Int) - 4 < i) := fun z => h1 (hcmp.mpr z)
    have hi4 : i + 4 ≤ L := by omega
    refine lv_aload_n hx hb d_La_law_26 rfl (lv_at hl 0 rfl) ?_
    refine lv_iload_n hx hb d_La_law_27 rfl (lv_at hl 3 rfl) ?_
    refine va_sld hx hb hX hbl hbA hS (vp_in_nI (by omega) (by omega)) d_La_law_28 ?_
    refine lv_bipush (v := (31 : Int32)) hx hb d_La_law_29 (by decide) ?_
    refine lv_iand hx hb d_La_law_31 ?_
    obtain ⟨j, hj, ej⟩ := pk_andE (xs (nI i).toNatClampNeg) (m := (31 : Int32)) 5 (by decide)
    rw [ej]
    by_cases hk0 : j = 0
    · subst hk0
      refine lv_tableIn (off := 116) (tgt := 148) hx hb d_La_law_32 (by decide) (by decide) rfl (by decide) ?_
      exact law_type hL C0 hE hi4 (by omega) (by omega) (K hi4) A ra rb rc im qa qb X Y ri rl rf vi vl vf B U V Z hR _ _ hP hD hS _ hl
    by_cases hk1 : j = 1
    · subst hk1
      refine lv_tableIn (off := 139) (tgt := 171) hx hb d_La_law_32 (by decide) (by decide) rfl (by decide) ?_
      exact law_clear hL C0 hE hi4 (by omega) (by omega) (K hi4) A ra rb rc im qa qb X Y ri rl rf vi vl vf B U V Z hR _ _ hP hD hS _ hl
    by_cases hk2 : j = 2
    · subst hk2
      refine lv_tableIn (off := 152) (tgt := 184) hx hb d_La_law_32 (by decide) (by decide) rfl (by decide) ?_
      exact law_tells hL C0 hE hi4 (by omega) (by omega) (K hi4) A ra rb rc im qa qb X Y ri rl rf vi vl vf B U V Z hR _ _ hP hD hS _ hl
    by_cases hk3 : j = 3
    · subst hk3
      refine lv_tableIn (off := 165) (tgt := 197) hx hb d_La_law_32 (by decide) (by decide) rfl (by decide) ?_
      exact law_passes hL C0 hE hi4 (by omega) (by omega) (K hi4) A ra rb rc im qa qb X Y ri rl rf vi vl vf B U V Z hR _ _ hP hD hS _ hl
    by_cases hk4 : j = 4
    · subst hk4
      refine lv_tableIn (off := 188) (tgt := 220) hx hb d_La_law_32 (by decide) (by decide) rfl (by decide) ?_
      exact law_drafts hL C0 hE hi4 (by omega) (by omega) (K hi4) A ra rb rc im qa qb X Y ri rl rf vi vl vf B U V Z hR _ _ hP hD hS _ hl
    by_cases hk5 : j = 5
    · subst hk5
      refine lv_tableIn (off := 211) (tgt := 243) hx hb d_La_law_32 (by decide) (by decide) rfl (by decide) ?_
      exact law_caps hL C0 hE hi4 (by omega) (by omega) (K hi4) A ra rb rc im qa qb X Y ri rl rf vi vl vf B U V Z hR _ _ hP hD hS _ hl
    by_cases hk6 : j = 6
    · subst hk6
      refine lv_tableIn (off := 234) (tgt := 266) hx hb d_La_law_32 (by decide) (by decide) rfl (by decide) ?_
      exact law_flows hL C0 hE hi4 (by omega) (by omega) (K hi4) A ra rb rc im qa qb X Y ri rl rf vi vl vf B U V Z hR _ _ hP hD hS _ hl
    by_cases hk7 : j = 7
    · subst hk7
      refine lv_tableIn (off := 267) (tgt := 299) hx hb d_La_law_32 (by decide) (by decide) rfl (by decide) ?_
      exact law_undo hL C0 hE hi4 (by omega) (by omega) (K hi4) A ra rb rc im qa qb X Y ri rl rf vi vl vf B U V Z hR _ _ hP hD hS _ hl
    by_cases hk8 : j = 8
    · subst hk8
      refine lv_tableIn (off := 280) (tgt := 312) hx hb d_La_law_32 (by decide) (by decide) rfl (by decide) ?_
      exact law_inflow hL C0 hE hi4 (by omega) (by omega) (K hi4) A ra rb rc im qa qb X Y ri rl rf vi vl vf B U V Z hR _ _ hP hD hS _ hl
    by_cases hk9 : j = 9
    · subst hk9
      refine lv_tableIn (off := 303) (tgt := 335) hx hb d_La_law_32 (by decide) (by decide) rfl (by decide) ?_
      exact law_loss hL C0 hE hi4 (by omega) (by omega) (K hi4) A ra rb rc im qa qb X Y ri rl rf vi vl vf B U V Z hR _ _ hP hD hS _ hl
    by_cases hk10 : j = 10
    · subst hk10
      refine lv_tableIn (off := 326) (tgt := 358) hx hb d_La_law_32 (by decide) (by decide) rfl (by decide) ?_
      exact law_lowest hL C0 hE hi4 (by omega) (by omega) (K hi4) A ra rb rc im qa qb X Y ri rl rf vi vl vf B U V Z hR _ _ hP hD hS _ hl
    by_cases hk11 : j = 11
    · subst hk11
      refine lv_tableIn (off := 349) (tgt := 381) hx hb d_La_law_32 (by decide) (by decide) rfl (by decide) ?_
      exact law_need hL C0 hE hi4 (by omega) (by omega) (K hi4) A ra rb rc im qa qb X Y ri rl rf vi vl vf B U V Z hR _ _ hP hD hS _ hl
    by_cases hk12 : j = 12
    · subst hk12
      refine lv_tableIn (off := 372) (tgt := 404) hx hb d_La_law_32 (by decide) (by decide) rfl (by decide) ?_
      exact law_sure hL C0 hE hi4 (by omega) (by omega) (K hi4) A ra rb rc im qa qb X Y ri rl rf vi vl vf B U V Z hR _ _ hP hD hS _ hl
    by_cases hk13 : j = 13
    · subst hk13
      refine lv_tableIn (off := 405) (tgt := 437) hx hb d_La_law_32 (by decide) (by decide) rfl (by decide) ?_
      exact law_piece hL C0 hE hi4 (by omega) (by omega) (K hi4) A ra rb rc im qa qb X Y ri rl rf vi vl vf B U V Z hR _ _ hP hD hS _ hl
    by_cases hk14 : j = 14
    · subst hk14
      refine lv_tableIn (off := 438) (tgt := 470) hx hb d_La_law_32 (by decide) (by decide) rfl (by decide) ?_
      exact law_least hL C0 hE hi4 (by omega) (by omega) (K hi4) A ra rb rc im qa qb X Y ri rl rf vi vl vf B U V Z hR _ _ hP hD hS _ hl
    by_cases hk15 : j = 15
    · subst hk15
      refine lv_tableIn (off := 461) (tgt := 493) hx hb d_La_law_32 (by decide) (by decide) rfl (by decide) ?_
      exact law_round hL C0 hE hi4 (by omega) (by omega) (K hi4) A ra rb rc im qa qb X Y ri rl rf vi vl vf B U V Z hR _ _ hP hD hS _ hl
    by_cases hk16 : j = 16
    · subst hk16
      refine lv_tableIn (off := 484) (tgt := 516) hx hb d_La_law_32 (by decide) (by decide) rfl (by decide) ?_
      exact law_run hL C0 hE hi4 (by omega) (by omega) (K hi4) A ra rb rc im qa qb X Y ri rl rf vi vl vf B U V Z hR _ _ hP hD hS _ hl
    by_cases hk17 : j = 17
    · subst hk17
      refine lv_tableIn (off := 507) (tgt := 539) hx hb d_La_law_32 (by decide) (by decide) rfl (by decide) ?_
      exact law_odds hL C0 hE hi4 (by omega) (by omega) (K hi4) A ra rb rc im qa qb X Y ri rl rf vi vl vf B U V Z hR _ _ hP hD hS _ hl
    by_cases hk18 : j = 18
    · subst hk18
      refine lv_tableIn (off := 550) (tgt := 582) hx hb d_La_law_32 (by decide) (by decide) rfl (by decide) ?_
      exact law_sees hL C0 hE hi4 (by omega) (by omega) (K hi4) A ra rb rc im qa qb X Y ri rl rf vi vl vf B U V Z hR _ _ hP hD hS _ hl
    by_cases hk19 : j = 19
    · subst hk19
      refine lv_tableIn (off := 583) (tgt := 615) hx hb d_La_law_32 (by decide) (by decide) rfl (by decide) ?_
      exact law_forget hL C0 hE hi4 (by omega) (by omega) (K hi4) A ra rb rc im qa qb X Y ri rl rf vi vl vf B U V Z hR _ _ hP hD hS _ hl
    by_cases hk20 : j = 20
    · subst hk20
      refine lv_tableIn (off := 596) (tgt := 628) hx hb d_La_law_32 (by decide) (by decide) rfl (by decide) ?_
      exact law_fits hL C0 hE hi4 (by omega) (by omega) (K hi4) A ra rb rc im qa qb X Y ri rl rf vi vl vf B U V Z hR _ _ hP hD hS _ hl
    by_cases hk21 : j = 21
    · subst hk21
      refine lv_tableIn (off := 619) (tgt := 651) hx hb d_La_law_32 (by decide) (by decide) rfl (by decide) ?_
      exact law_look hL C0 hE hi4 (by omega) (by omega) (K hi4) A ra rb rc im qa qb X Y ri rl rf vi vl vf B U V Z hR _ _ hP hD hS _ hl
    by_cases hk22 : j = 22
    · subst hk22
      refine lv_tableIn (off := 632) (tgt := 664) hx hb d_La_law_32 (by decide) (by decide) rfl (by decide) ?_
      exact law_keep hL C0 hE hi4 (by omega) (by omega) (K hi4) A ra rb rc im qa qb X Y ri rl rf vi vl vf B U V Z hR _ _ hP hD hS _ hl
    by_cases hk23 : j = 23
    · subst hk23
      refine lv_tableIn (off := 655) (tgt := 687) hx hb d_La_law_32 (by decide) (by decide) rfl (by decide) ?_
      exact law_back hL C0 hE hi4 (by omega) (by omega) (K hi4) A ra rb rc im qa qb X Y ri rl rf vi vl vf B U V Z hR _ _ hP hD hS _ hl
    by_cases hk24 : j = 24
    · subst hk24
      refine lv_tableIn (off := 678) (tgt := 710) hx hb d_La_law_32 (by decide) (by decide) rfl (by decide) ?_
      exact law_count hL C0 hE hi4 (by omega) (by omega) (K hi4) A ra rb rc im qa qb X Y ri rl rf vi vl vf B U V Z hR _ _ hP hD hS _ hl
    refine lv_tableOut (tgt := 733) hx hb d_La_law_32 (Or.inr (by rw [nI_toInt (by omega)]; omega)) (by decide) ?_
    refine W.widen (k := cells + 3) (n := slots + 32) (by omega) (by omega) ?_
    exact K hi4 A ra rb rc im qa qb X Y ri rl rf vi vl vf B U V Z hR _ _ hP hD hS _ hl
theorem va_P.setq {G : va_G} {ws : va_W} {H : Heap} (h : va_P G classes ws H) (k : Nat) {a n : Nat} {cA : ClassId} {f g : Nat → Option Nat} (hk : ws[k]? = some (a, .inl (cA, n, .inr (.inr (.inr (.inr f)))))) (hfg : ∀ j, j < n → f j = g j) : va_P G classes (ws.set k (a, .inl (cA, n, .inr (.inr (.inr (.inr g)))))) H := by
  intro i q hq
  by_cases hi : i = k
  · subst hi
    rw [List.getElem?_set_self (List.getElem?_eq_some_iff.mp hk).1] at hq
    cases hq
    have h1 : H[a]? = some (vp_cell cA (n, .inr (.inr (.inr (.inr f))))) := h i _ hk
    show H[a]? = some (vp_cell cA (n, .inr (.inr (.inr (.inr g)))))
    rw [h1, vp_cell_q, vp_cell_q]
    congr 1
    unfold arrV
    congr 2
    funext j
    show va_rf (f j.val) = va_rf (g j.val)
    rw [hfg j.val j.isLt]
  · rw [List.getElem?_set_ne (Ne.symm hi)] at hq
    exact h i q hq
theorem va_D.setq {A : Nat → Prop} {ws : va_W} (h : va_D A ws) (k : Nat) {a : Nat} {e0 e : va_E} (hk : ws[k]? = some (a, e0)) : va_D A (ws.set k (a, e)) := h.set hk
set_option maxHeartbeats 8000000 in
set_option maxRecDepth 100000 in
theorem whole_start {p : Program} {e : Env} {s : State} {m : MethodId} {below : List Frame} {meth : Method} {c : Code} (l : Launch) (hflags : l.flags = flags0) {b L : Nat} {xs : Nat → Int32} (hL : L ≤ 2048) (C0 : lw_At p s m meth c b L xs) : W p l e room_1 s m #[Value.ref b] below meth c s.heap [] 0 0 (lw_Z below #[Value.ref b] s) (entryFrame m ([Value.ref b] : List Value).toArray 4) := by
  obtain ⟨G, cy, kz, hE⟩ := law_EK C0
  obtain ⟨hx, hb, hr, hml, hown, hts, hX, hbl, hlocks, hgv⟩ := id C0
  have hown : s.vm.findClass "YieldDeskLaw" = some m.cls := hown
  have hB : ∀ w ∈ BW, w.before #[Value.ref b] s = true := fun w hw => hts w (List.mem_filter.mp hw).1
  have hA : ∀ q : Nat, s.heap.size ≤ q → (fun q : Nat => s.heap.size ≤ q) q := fun _ h => h
  have hNA : ∀ q : Nat, (fun q : Nat => s.heap.size ≤ q) q → s.heap.size ≤ q := fun _ h => h
  have hbA : ¬ (fun q : Nat => s.heap.size ≤ q) b := Nat.not_le.mpr hbl
  have hN : s.heap.size ≤ s.heap.size := Nat.le_refl _
  obtain ⟨z13, z14, hz13, hz14, hRel⟩ := pl_init
  have hS : va_S (fun q : Nat => s.heap.size ≤ q) s.heap s.heap [] := va_S.rf
  have hP : va_P G classes [] s.heap := fun k q h => by simp at h
  have hD : va_D (fun q : Nat => s.heap.size ≤ q) [] := ⟨fun i j p q h => by simp at h, fun k q h => by simp at h⟩
  have hl := lv_entry ([.ref b]) (n := 4) (Nat.le_of_ble_eq_true rfl)
  rw [lg_entry_eq]
  generalize (lg_sl ([.ref b]) ++ List.replicate (4 - (lg_sl ([.ref b])).length) Slot.unset).toArray = ls at hl ⊢
  have hl : lv_has ls 4 [(0, .ref b)] := hl
  refine va_new (ci := 7) (fs := [.null, .null, .null, .null, .null, .null, .null, .null, .null]) (C := "YieldDesk") (T := F_Ye) (N := 9) hx hb hB fi_Ye ft_Ye fo_Ye hown (hB _ m_12) (hB _ m_13) (hB _ m_1) hE.1 hP hD hS hA rfl df_Ye (Nat.le_of_ble_eq_true rfl) (Nat.le_of_ble_eq_true rfl) d_La_law_0 (fun w0 H hP hD hS => ?_)
  have hP : va_P G classes [(w0, .inr (7, [.null, .null, .null, .null, .null, .null, .null, .null, .null]))] H := hP
  have hD : va_D (fun q : Nat => s.heap.size ≤ q) [(w0, .inr (7, [.null, .null, .null, .null, .null, .null, .null, .null, .null]))] := hD
  refine lv_dup hx hb d_La_law_3 rfl ?_
  refine x_I (As := []) (rest := [.ref w0]) (wc := [(w0, .inr (7, [.null, .null, .null, .null, .null, .null, .null, .null, .null]))]) (wr := []) (t_Ye_init l G cy kz s.heap.size w0  (fun w => ∃ w1 w2 w3 w4 w5 w6 w7 w8 w9 w10 w11 w12 w13 w14 w15 w16 w17 w18 w19 w20 w21 w22 w23 w24 w25 w26 w27 w28 w29 w30 w31 w32 w33 w34 w35 w36 w37 w38 w39 w40 w41 w42, w = [(w0, .inr (7, [.ref w1, .ref w4, .ref w7, .ref w9, .ref w29, .ref w33, .ref w35, .ref w41, .ref w42])), (w1, .inr (0, [.ref w2, .ref w3, .int (1 : Int32), .int 0, .int 0, .int 0, .int 0, .int 0, .int 0, .int 0])), (w2, .inl (cy 0, 12, .inl (fun _ => 0))), (w3, .inl (cy 0, 10, .inl (fun _ => 0))), (w4, .inr (0, [.ref w5, .ref w6, .int (1 : Int32), .int 0, .int 0, .int 0, .int 0, .int 0, .int 0, .int 0])), (w5, .inl (cy 0, 12, .inl (fun _ => 0))), (w6, .inl (cy 0, 10, .inl (fun _ => 0))), (w7, .inr (6, [.ref w8, .int 0, .int 0, .int 0, .int 0, .int 0])), (w8, .inl (cy 0, 120, .inl (fun _ => 0))), (w9, .inr (3, [.ref w10, .int 0, .int 0])), (w10, .inl (cy 2, 6, .inr (.inr (.inr (.inr (va_up (va_up (va_up (va_up (va_up (va_up (fun _ => none) 0 (some w11)) 1 (some w14)) 2 (some w17)) 3 (some w20)) 4 (some w23)) 5 (some w26))))))), (w11, .inr (0, [.ref w12, .ref w13, .int (1 : Int32), .int 0, .int 0, .int 0, .int 0, .int 0, .int 0, .int 0])), (w12, .inl (cy 0, 12, .inl (fun _ => 0))), (w13, .inl (cy 0, 10, .inl (fun _ => 0))), (w14, .inr (0, [.ref w15, .ref w16, .int (1 : Int32), .int 0, .int 0, .int 0, .int 0, .int 0, .int 0, .int 0])), (w15, .inl (cy 0, 12, .inl (fun _ => 0))), (w16, .inl (cy 0, 10, .inl (fun _ => 0))), (w17, .inr (0, [.ref w18, .ref w19, .int (1 : Int32), .int 0, .int 0, .int 0, .int 0, .int 0, .int 0, .int 0])), (w18, .inl (cy 0, 12, .inl (fun _ => 0))), (w19, .inl (cy 0, 10, .inl (fun _ => 0))), (w20, .inr (0, [.ref w21, .ref w22, .int (1 : Int32), .int 0, .int 0, .int 0, .int 0, .int 0, .int 0, .int 0])), (w21, .inl (cy 0, 12, .inl (fun _ => 0))), (w22, .inl (cy 0, 10, .inl (fun _ => 0))), (w23, .inr (0, [.ref w24, .ref w25, .int (1 : Int32), .int 0, .int 0, .int 0, .int 0, .int 0, .int 0, .int 0])), (w24, .inl (cy 0, 12, .inl (fun _ => 0))), (w25, .inl (cy 0, 10, .inl (fun _ => 0))), (w26, .inr (0, [.ref w27, .ref w28, .int (1 : Int32), .int 0, .int 0, .int 0, .int 0, .int 0, .int 0, .int 0])), (w27, .inl (cy 0, 12, .inl (fun _ => 0))), (w28, .inl (cy 0, 10, .inl (fun _ => 0))), (w29, .inr (4, [.ref w30, .ref w31, .ref w32, .int (1 : Int32)])), (w30, .inl (cy 0, 13, .inl (fun _ => 0))), (w31, .inr (1, [.int 0, .int (1 : Int32)])), (w32, .inr (1, [.int 0, .int (1 : Int32)])), (w33, .inr (2, [.ref w34, .int 0, .int 0, .int 0])), (w34, .inl (cy 0, 1000, .inl (fun _ => 0))), (w35, .inr (5, [.ref w36, .ref w37, .ref w38, .ref w39, .ref w40, .int 0, .int 0])), (w36, .inl (cy 0, 6, .inl (fun _ => 0))), (w37, .inl (cy 0, 6, .inl (fun _ => 0))), (w38, .inl (cy 0, 100, .inl (fun _ => 0))), (w39, .inl (cy 0, 100, .inl (fun _ => 0))), (w40, .inl (cy 0, 1000, .inl (fun _ => 0))), (w41, .inr (1, [.int 0, .int (1 : Int32)])), (w42, .inl (cy 2, 2, .inr (.inr (.inr (.inr (fun _ => none))))))]) (fun w1 w2 w3 w4 w5 w6 w7 w8 w9 w10 w11 w12 w13 w14 w15 w16 w17 w18 w19 w20 w21 w22 w23 w24 w25 w26 w27 w28 w29 w30 w31 w32 w33 w34 w35 w36 w37 w38 w39 w40 w41 w42 => ⟨w1, w2, w3, w4, w5, w6, w7, w8, w9, w10, w11, w12, w13, w14, w15, w16, w17, w18, w19, w20, w21, w22, w23, w24, w25, w26, w27, w28, w29, w30, w31, w32, w33, w34, w35, w36, w37, w38, w39, w40, w41, w42, rfl⟩)) hx hb hml hown hB hE hN hNA m_14 m_15 m_1 m_16 rfl hdS_Ye_init ⟨(Nat.le_of_ble_eq_true rfl), (Nat.le_of_ble_eq_true rfl), (Nat.le_of_ble_eq_true rfl), (Nat.le_of_ble_eq_true rfl)⟩ hP hD hS hA [0] [] rfl rfl (by decide) (by decide) hl.1 rfl (Nat.le_of_ble_eq_true rfl) d_La_law_4 (fun w H locs hw hP hD hS => ?_)
  obtain ⟨w1, w2, w3, w4, w5, w6, w7, w8, w9, w10, w11, w12, w13, w14, w15, w16, w17, w18, w19, w20, w21, w22, w23, w24, w25, w26, w27, w28, w29, w30, w31, w32, w33, w34, w35, w36, w37, w38, w39, w40, w41, w42, rfl⟩ := hw
  have hP : va_P G classes [(w0, .inr (7, [.ref w1, .ref w4, .ref w7, .ref w9, .ref w29, .ref w33, .ref w35, .ref w41, .ref w42])), (w1, .inr (0, [.ref w2, .ref w3, .int (1 : Int32), .int 0, .int 0, .int 0, .int 0, .int 0, .int 0, .int 0])), (w2, .inl (cy 0, 12, .inl (fun _ => 0))), (w3, .inl (cy 0, 10, .inl (fun _ => 0))), (w4, .inr (0, [.ref w5, .ref w6, .int (1 : Int32), .int 0, .int 0, .int 0, .int 0, .int 0, .int 0, .int 0])), (w5, .inl (cy 0, 12, .inl (fun _ => 0))), (w6, .inl (cy 0, 10, .inl (fun _ => 0))), (w7, .inr (6, [.ref w8, .int 0, .int 0, .int 0, .int 0, .int 0])), (w8, .inl (cy 0, 120, .inl (fun _ => 0))), (w9, .inr (3, [.ref w10, .int 0, .int 0])), (w10, .inl (cy 2, 6, .inr (.inr (.inr (.inr (va_up (va_up (va_up (va_up (va_up (va_up (fun _ => none) 0 (some w11)) 1 (some w14)) 2 (some w17)) 3 (some w20)) 4 (some w23)) 5 (some w26))))))), (w11, .inr (0, [.ref w12, .ref w13, .int (1 : Int32), .int 0, .int 0, .int 0, .int 0, .int 0, .int 0, .int 0])), (w12, .inl (cy 0, 12, .inl (fun _ => 0))), (w13, .inl (cy 0, 10, .inl (fun _ => 0))), (w14, .inr (0, [.ref w15, .ref w16, .int (1 : Int32), .int 0, .int 0, .int 0, .int 0, .int 0, .int 0, .int 0])), (w15, .inl (cy 0, 12, .inl (fun _ => 0))), (w16, .inl (cy 0, 10, .inl (fun _ => 0))), (w17, .inr (0, [.ref w18, .ref w19, .int (1 : Int32), .int 0, .int 0, .int 0, .int 0, .int 0, .int 0, .int 0])), (w18, .inl (cy 0, 12, .inl (fun _ => 0))), (w19, .inl (cy 0, 10, .inl (fun _ => 0))), (w20, .inr (0, [.ref w21, .ref w22, .int (1 : Int32), .int 0, .int 0, .int 0, .int 0, .int 0, .int 0, .int 0])), (w21, .inl (cy 0, 12, .inl (fun _ => 0))), (w22, .inl (cy 0, 10, .inl (fun _ => 0))), (w23, .inr (0, [.ref w24, .ref w25, .int (1 : Int32), .int 0, .int 0, .int 0, .int 0, .int 0, .int 0, .int 0])), (w24, .inl (cy 0, 12, .inl (fun _ => 0))), (w25, .inl (cy 0, 10, .inl (fun _ => 0))), (w26, .inr (0, [.ref w27, .ref w28, .int (1 : Int32), .int 0, .int 0, .int 0, .int 0, .int 0, .int 0, .int 0])), (w27, .inl (cy 0, 12, .inl (fun _ => 0))), (w28, .inl (cy 0, 10, .inl (fun _ => 0))), (w29, .inr (4, [.ref w30, .ref w31, .ref w32, .int (1 : Int32)])), (w30, .inl (cy 0, 13, .inl (fun _ => 0))), (w31, .inr (1, [.int 0, .int (1 : Int32)])), (w32, .inr (1, [.int 0, .int (1 : Int32)])), (w33, .inr (2, [.ref w34, .int 0, .int 0, .int 0])), (w34, .inl (cy 0, 1000, .inl (fun _ => 0))), (w35, .inr (5, [.ref w36, .ref w37, .ref w38, .ref w39, .ref w40, .int 0, .int 0])), (w36, .inl (cy 0, 6, .inl (fun _ => 0))), (w37, .inl (cy 0, 6, .inl (fun _ => 0))), (w38, .inl (cy 0, 100, .inl (fun _ => 0))), (w39, .inl (cy 0, 100, .inl (fun _ => 0))), (w40, .inl (cy 0, 1000, .inl (fun _ => 0))), (w41, .inr (1, [.int 0, .int (1 : Int32)])), (w42, .inl (cy 2, 2, .inr (.inr (.inr (.inr (fun _ => none))))))] H := hP
  have hD : va_D (fun q : Nat => s.heap.size ≤ q) [(w0, .inr (7, [.ref w1, .ref w4, .ref w7, .ref w9, .ref w29, .ref w33, .ref w35, .ref w41, .ref w42])), (w1, .inr (0, [.ref w2, .ref w3, .int (1 : Int32), .int 0, .int 0, .int 0, .int 0, .int 0, .int 0, .int 0])), (w2, .inl (cy 0, 12, .inl (fun _ => 0))), (w3, .inl (cy 0, 10, .inl (fun _ => 0))), (w4, .inr (0, [.ref w5, .ref w6, .int (1 : Int32), .int 0, .int 0, .int 0, .int 0, .int 0, .int 0, .int 0])), (w5, .inl (cy 0, 12, .inl (fun _ => 0))), (w6, .inl (cy 0, 10, .inl (fun _ => 0))), (w7, .inr (6, [.ref w8, .int 0, .int 0, .int 0, .int 0, .int 0])), (w8, .inl (cy 0, 120, .inl (fun _ => 0))), (w9, .inr (3, [.ref w10, .int 0, .int 0])), (w10, .inl (cy 2, 6, .inr (.inr (.inr (.inr (va_up (va_up (va_up (va_up (va_up (va_up (fun _ => none) 0 (some w11)) 1 (some w14)) 2 (some w17)) 3 (some w20)) 4 (some w23)) 5 (some w26))))))), (w11, .inr (0, [.ref w12, .ref w13, .int (1 : Int32), .int 0, .int 0, .int 0, .int 0, .int 0, .int 0, .int 0])), (w12, .inl (cy 0, 12, .inl (fun _ => 0))), (w13, .inl (cy 0, 10, .inl (fun _ => 0))), (w14, .inr (0, [.ref w15, .ref w16, .int (1 : Int32), .int 0, .int 0, .int 0, .int 0, .int 0, .int 0, .int 0])), (w15, .inl (cy 0, 12, .inl (fun _ => 0))), (w16, .inl (cy 0, 10, .inl (fun _ => 0))), (w17, .inr (0, [.ref w18, .ref w19, .int (1 : Int32), .int 0, .int 0, .int 0, .int 0, .int 0, .int 0, .int 0])), (w18, .inl (cy 0, 12, .inl (fun _ => 0))), (w19, .inl (cy 0, 10, .inl (fun _ => 0))), (w20, .inr (0, [.ref w21, .ref w22, .int (1 : Int32), .int 0, .int 0, .int 0, .int 0, .int 0, .int 0, .int 0])), (w21, .inl (cy 0, 12, .inl (fun _ => 0))), (w22, .inl (cy 0, 10, .inl (fun _ => 0))), (w23, .inr (0, [.ref w24, .ref w25, .int (1 : Int32), .int 0, .int 0, .int 0, .int 0, .int 0, .int 0, .int 0])), (w24, .inl (cy 0, 12, .inl (fun _ => 0))), (w25, .inl (cy 0, 10, .inl (fun _ => 0))), (w26, .inr (0, [.ref w27, .ref w28, .int (1 : Int32), .int 0, .int 0, .int 0, .int 0, .int 0, .int 0, .int 0])), (w27, .inl (cy 0, 12, .inl (fun _ => 0))), (w28, .inl (cy 0, 10, .inl (fun _ => 0))), (w29, .inr (4, [.ref w30, .ref w31, .ref w32, .int (1 : Int32)])), (w30, .inl (cy 0, 13, .inl (fun _ => 0))), (w31, .inr (1, [.int 0, .int (1 : Int32)])), (w32, .inr (1, [.int 0, .int (1 : Int32)])), (w33, .inr (2, [.ref w34, .int 0, .int 0, .int 0])), (w34, .inl (cy 0, 1000, .inl (fun _ => 0))), (w35, .inr (5, [.ref w36, .ref w37, .ref w38, .ref w39, .ref w40, .int 0, .int 0])), (w36, .inl (cy 0, 6, .inl (fun _ => 0))), (w37, .inl (cy 0, 6, .inl (fun _ => 0))), (w38, .inl (cy 0, 100, .inl (fun _ => 0))), (w39, .inl (cy 0, 100, .inl (fun _ => 0))), (w40, .inl (cy 0, 1000, .inl (fun _ => 0))), (w41, .inr (1, [.int 0, .int (1 : Int32)])), (w42, .inl (cy 2, 2, .inr (.inr (.inr (.inr (fun _ => none))))))] := hD
  refine lv_astore_n (lv' := [(1, .ref w0), (0, .ref b)]) hx hb d_La_law_7 rfl hl (by decide) rfl (fun ls hl => ?_)
  refine va_new (ci := 8) (fs := [.null, .null, .null, .int 0, .null, .null, .null, .null, .int 0, .null, .int 0, .int 0, .int 0, .int 0, .int 0, .int 0, .int 0, .long 0, .long 0, .long 0, .long 0, .null, .null, .null, .null]) (C := "YieldDeskModel") (T := F_Mo) (N := 25) hx hb hB fi_Mo ft_Mo fo_Mo hown (hB _ m_625) (hB _ m_626) (hB _ m_9) hE.1 hP hD hS hA rfl df_Mo (Nat.le_of_ble_eq_true rfl) (Nat.le_of_ble_eq_true rfl) d_La_law_8 (fun v0 H hP hD hS => ?_)
  have hP : va_P G classes [(w0, .inr (7, [.ref w1, .ref w4, .ref w7, .ref w9, .ref w29, .ref w33, .ref w35, .ref w41, .ref w42])), (w1, .inr (0, [.ref w2, .ref w3, .int (1 : Int32), .int 0, .int 0, .int 0, .int 0, .int 0, .int 0, .int 0])), (w2, .inl (cy 0, 12, .inl (fun _ => 0))), (w3, .inl (cy 0, 10, .inl (fun _ => 0))), (w4, .inr (0, [.ref w5, .ref w6, .int (1 : Int32), .int 0, .int 0, .int 0, .int 0, .int 0, .int 0, .int 0])), (w5, .inl (cy 0, 12, .inl (fun _ => 0))), (w6, .inl (cy 0, 10, .inl (fun _ => 0))), (w7, .inr (6, [.ref w8, .int 0, .int 0, .int 0, .int 0, .int 0])), (w8, .inl (cy 0, 120, .inl (fun _ => 0))), (w9, .inr (3, [.ref w10, .int 0, .int 0])), (w10, .inl (cy 2, 6, .inr (.inr (.inr (.inr (va_up (va_up (va_up (va_up (va_up (va_up (fun _ => none) 0 (some w11)) 1 (some w14)) 2 (some w17)) 3 (some w20)) 4 (some w23)) 5 (some w26))))))), (w11, .inr (0, [.ref w12, .ref w13, .int (1 : Int32), .int 0, .int 0, .int 0, .int 0, .int 0, .int 0, .int 0])), (w12, .inl (cy 0, 12, .inl (fun _ => 0))), (w13, .inl (cy 0, 10, .inl (fun _ => 0))), (w14, .inr (0, [.ref w15, .ref w16, .int (1 : Int32), .int 0, .int 0, .int 0, .int 0, .int 0, .int 0, .int 0])), (w15, .inl (cy 0, 12, .inl (fun _ => 0))), (w16, .inl (cy 0, 10, .inl (fun _ => 0))), (w17, .inr (0, [.ref w18, .ref w19, .int (1 : Int32), .int 0, .int 0, .int 0, .int 0, .int 0, .int 0, .int 0])), (w18, .inl (cy 0, 12, .inl (fun _ => 0))), (w19, .inl (cy 0, 10, .inl (fun _ => 0))), (w20, .inr (0, [.ref w21, .ref w22, .int (1 : Int32), .int 0, .int 0, .int 0, .int 0, .int 0, .int 0, .int 0])), (w21, .inl (cy 0, 12, .inl (fun _ => 0))), (w22, .inl (cy 0, 10, .inl (fun _ => 0))), (w23, .inr (0, [.ref w24, .ref w25, .int (1 : Int32), .int 0, .int 0, .int 0, .int 0, .int 0, .int 0, .int 0])), (w24, .inl (cy 0, 12, .inl (fun _ => 0))), (w25, .inl (cy 0, 10, .inl (fun _ => 0))), (w26, .inr (0, [.ref w27, .ref w28, .int (1 : Int32), .int 0, .int 0, .int 0, .int 0, .int 0, .int 0, .int 0])), (w27, .inl (cy 0, 12, .inl (fun _ => 0))), (w28, .inl (cy 0, 10, .inl (fun _ => 0))), (w29, .inr (4, [.ref w30, .ref w31, .ref w32, .int (1 : Int32)])), (w30, .inl (cy 0, 13, .inl (fun _ => 0))), (w31, .inr (1, [.int 0, .int (1 : Int32)])), (w32, .inr (1, [.int 0, .int (1 : Int32)])), (w33, .inr (2, [.ref w34, .int 0, .int 0, .int 0])), (w34, .inl (cy 0, 1000, .inl (fun _ => 0))), (w35, .inr (5, [.ref w36, .ref w37, .ref w38, .ref w39, .ref w40, .int 0, .int 0])), (w36, .inl (cy 0, 6, .inl (fun _ => 0))), (w37, .inl (cy 0, 6, .inl (fun _ => 0))), (w38, .inl (cy 0, 100, .inl (fun _ => 0))), (w39, .inl (cy 0, 100, .inl (fun _ => 0))), (w40, .inl (cy 0, 1000, .inl (fun _ => 0))), (w41, .inr (1, [.int 0, .int (1 : Int32)])), (w42, .inl (cy 2, 2, .inr (.inr (.inr (.inr (fun _ => none)))))), (v0, .inr (8, [.null, .null, .null, .int 0, .null, .null, .null, .null, .int 0, .null, .int 0, .int 0, .int 0, .int 0, .int 0, .int 0, .int 0, .long 0, .long 0, .long 0, .long 0, .null, .null, .null, .null]))] H := hP
  have hD : va_D (fun q : Nat => s.heap.size ≤ q) [(w0, .inr (7, [.ref w1, .ref w4, .ref w7, .ref w9, .ref w29, .ref w33, .ref w35, .ref w41, .ref w42])), (w1, .inr (0, [.ref w2, .ref w3, .int (1 : Int32), .int 0, .int 0, .int 0, .int 0, .int 0, .int 0, .int 0])), (w2, .inl (cy 0, 12, .inl (fun _ => 0))), (w3, .inl (cy 0, 10, .inl (fun _ => 0))), (w4, .inr (0, [.ref w5, .ref w6, .int (1 : Int32), .int 0, .int 0, .int 0, .int 0, .int 0, .int 0, .int 0])), (w5, .inl (cy 0, 12, .inl (fun _ => 0))), (w6, .inl (cy 0, 10, .inl (fun _ => 0))), (w7, .inr (6, [.ref w8, .int 0, .int 0, .int 0, .int 0, .int 0])), (w8, .inl (cy 0, 120, .inl (fun _ => 0))), (w9, .inr (3, [.ref w10, .int 0, .int 0])), (w10, .inl (cy 2, 6, .inr (.inr (.inr (.inr (va_up (va_up (va_up (va_up (va_up (va_up (fun _ => none) 0 (some w11)) 1 (some w14)) 2 (some w17)) 3 (some w20)) 4 (some w23)) 5 (some w26))))))), (w11, .inr (0, [.ref w12, .ref w13, .int (1 : Int32), .int 0, .int 0, .int 0, .int 0, .int 0, .int 0, .int 0])), (w12, .inl (cy 0, 12, .inl (fun _ => 0))), (w13, .inl (cy 0, 10, .inl (fun _ => 0))), (w14, .inr (0, [.ref w15, .ref w16, .int (1 : Int32), .int 0, .int 0, .int 0, .int 0, .int 0, .int 0, .int 0])), (w15, .inl (cy 0, 12, .inl (fun _ => 0))), (w16, .inl (cy 0, 10, .inl (fun _ => 0))), (w17, .inr (0, [.ref w18, .ref w19, .int (1 : Int32), .int 0, .int 0, .int 0, .int 0, .int 0, .int 0, .int 0])), (w18, .inl (cy 0, 12, .inl (fun _ => 0))), (w19, .inl (cy 0, 10, .inl (fun _ => 0))), (w20, .inr (0, [.ref w21, .ref w22, .int (1 : Int32), .int 0, .int 0, .int 0, .int 0, .int 0, .int 0, .int 0])), (w21, .inl (cy 0, 12, .inl (fun _ => 0))), (w22, .inl (cy 0, 10, .inl (fun _ => 0))), (w23, .inr (0, [.ref w24, .ref w25, .int (1 : Int32), .int 0, .int 0, .int 0, .int 0, .int 0, .int 0, .int 0])), (w24, .inl (cy 0, 12, .inl (fun _ => 0))), (w25, .inl (cy 0, 10, .inl (fun _ => 0))), (w26, .inr (0, [.ref w27, .ref w28, .int (1 : Int32), .int 0, .int 0, .int 0, .int 0, .int 0, .int 0, .int 0])), (w27, .inl (cy 0, 12, .inl (fun _ => 0))), (w28, .inl (cy 0, 10, .inl (fun _ => 0))), (w29, .inr (4, [.ref w30, .ref w31, .ref w32, .int (1 : Int32)])), (w30, .inl (cy 0, 13, .inl (fun _ => 0))), (w31, .inr (1, [.int 0, .int (1 : Int32)])), (w32, .inr (1, [.int 0, .int (1 : Int32)])), (w33, .inr (2, [.ref w34, .int 0, .int 0, .int 0])), (w34, .inl (cy 0, 1000, .inl (fun _ => 0))), (w35, .inr (5, [.ref w36, .ref w37, .ref w38, .ref w39, .ref w40, .int 0, .int 0])), (w36, .inl (cy 0, 6, .inl (fun _ => 0))), (w37, .inl (cy 0, 6, .inl (fun _ => 0))), (w38, .inl (cy 0, 100, .inl (fun _ => 0))), (w39, .inl (cy 0, 100, .inl (fun _ => 0))), (w40, .inl (cy 0, 1000, .inl (fun _ => 0))), (w41, .inr (1, [.int 0, .int (1 : Int32)])), (w42, .inl (cy 2, 2, .inr (.inr (.inr (.inr (fun _ => none)))))), (v0, .inr (8, [.null, .null, .null, .int 0, .null, .null, .null, .null, .int 0, .null, .int 0, .int 0, .int 0, .int 0, .int 0, .int 0, .int 0, .long 0, .long 0, .long 0, .long 0, .null, .null, .null, .null]))] := hD
  refine lv_dup hx hb d_La_law_11 rfl ?_
  refine x_I (As := []) (rest := [.ref v0]) (wc := [(v0, .inr (8, [.null, .null, .null, .int 0, .null, .null, .null, .null, .int 0, .null, .int 0, .int 0, .int 0, .int 0, .int 0, .int 0, .int 0, .long 0, .long 0, .long 0, .long 0, .null, .null, .null, .null]))]) (wr := [(w0, .inr (7, [.ref w1, .ref w4, .ref w7, .ref w9, .ref w29, .ref w33, .ref w35, .ref w41, .ref w42])), (w1, .inr (0, [.ref w2, .ref w3, .int (1 : Int32), .int 0, .int 0, .int 0, .int 0, .int 0, .int 0, .int 0])), (w2, .inl (cy 0, 12, .inl (fun _ => 0))), (w3, .inl (cy 0, 10, .inl (fun _ => 0))), (w4, .inr (0, [.ref w5, .ref w6, .int (1 : Int32), .int 0, .int 0, .int 0, .int 0, .int 0, .int 0, .int 0])), (w5, .inl (cy 0, 12, .inl (fun _ => 0))), (w6, .inl (cy 0, 10, .inl (fun _ => 0))), (w7, .inr (6, [.ref w8, .int 0, .int 0, .int 0, .int 0, .int 0])), (w8, .inl (cy 0, 120, .inl (fun _ => 0))), (w9, .inr (3, [.ref w10, .int 0, .int 0])), (w10, .inl (cy 2, 6, .inr (.inr (.inr (.inr (va_up (va_up (va_up (va_up (va_up (va_up (fun _ => none) 0 (some w11)) 1 (some w14)) 2 (some w17)) 3 (some w20)) 4 (some w23)) 5 (some w26))))))), (w11, .inr (0, [.ref w12, .ref w13, .int (1 : Int32), .int 0, .int 0, .int 0, .int 0, .int 0, .int 0, .int 0])), (w12, .inl (cy 0, 12, .inl (fun _ => 0))), (w13, .inl (cy 0, 10, .inl (fun _ => 0))), (w14, .inr (0, [.ref w15, .ref w16, .int (1 : Int32), .int 0, .int 0, .int 0, .int 0, .int 0, .int 0, .int 0])), (w15, .inl (cy 0, 12, .inl (fun _ => 0))), (w16, .inl (cy 0, 10, .inl (fun _ => 0))), (w17, .inr (0, [.ref w18, .ref w19, .int (1 : Int32), .int 0, .int 0, .int 0, .int 0, .int 0, .int 0, .int 0])), (w18, .inl (cy 0, 12, .inl (fun _ => 0))), (w19, .inl (cy 0, 10, .inl (fun _ => 0))), (w20, .inr (0, [.ref w21, .ref w22, .int (1 : Int32), .int 0, .int 0, .int 0, .int 0, .int 0, .int 0, .int 0])), (w21, .inl (cy 0, 12, .inl (fun _ => 0))), (w22, .inl (cy 0, 10, .inl (fun _ => 0))), (w23, .inr (0, [.ref w24, .ref w25, .int (1 : Int32), .int 0, .int 0, .int 0, .int 0, .int 0, .int 0, .int 0])), (w24, .inl (cy 0, 12, .inl (fun _ => 0))), (w25, .inl (cy 0, 10, .inl (fun _ => 0))), (w26, .inr (0, [.ref w27, .ref w28, .int (1 : Int32), .int 0, .int 0, .int 0, .int 0, .int 0, .int 0, .int 0])), (w27, .inl (cy 0, 12, .inl (fun _ => 0))), (w28, .inl (cy 0, 10, .inl (fun _ => 0))), (w29, .inr (4, [.ref w30, .ref w31, .ref w32, .int (1 : Int32)])), (w30, .inl (cy 0, 13, .inl (fun _ => 0))), (w31, .inr (1, [.int 0, .int (1 : Int32)])), (w32, .inr (1, [.int 0, .int (1 : Int32)])), (w33, .inr (2, [.ref w34, .int 0, .int 0, .int 0])), (w34, .inl (cy 0, 1000, .inl (fun _ => 0))), (w35, .inr (5, [.ref w36, .ref w37, .ref w38, .ref w39, .ref w40, .int 0, .int 0])), (w36, .inl (cy 0, 6, .inl (fun _ => 0))), (w37, .inl (cy 0, 6, .inl (fun _ => 0))), (w38, .inl (cy 0, 100, .inl (fun _ => 0))), (w39, .inl (cy 0, 100, .inl (fun _ => 0))), (w40, .inl (cy 0, 1000, .inl (fun _ => 0))), (w41, .inr (1, [.int 0, .int (1 : Int32)])), (w42, .inl (cy 2, 2, .inr (.inr (.inr (.inr (fun _ => none))))))]) (t_Mo_init l G cy kz s.heap.size v0 z13 hz13 z14 hz14 (fun w => ∃ v1 v2 v3 v4 v5 v6 v7 v8 v9 v10 v11 v12, w = [(v0, .inr (8, [.ref v1, .ref v2, .ref v3, .int 0, .ref v4, .ref v5, .ref v6, .ref v7, .int 0, .ref v8, .int 0, .int 0, .int 0, .int 0, .int 0, .int 0, .int 0, .long 0, .long 0, .long 0, .long 0, .ref v9, .ref v10, .ref v11, .ref v12])), (v1, .inl (cy 0, 30, .inl z14)), (v2, .inl (cy 0, 30, .inl z13)), (v3, .inl (cy 0, 180, .inl (fun _ => 0))), (v4, .inl (cy 0, 60, .inl (fun _ => 0))), (v5, .inl (cy 1, 2, .inl (fun _ => 0))), (v6, .inl (cy 0, 6, .inl (fun _ => 0))), (v7, .inl (cy 0, 6, .inl (fun _ => 0))), (v8, .inl (cy 0, 120, .inl (fun _ => 0))), (v9, .inl (cy 0, 1000, .inl (fun _ => 0))), (v10, .inl (cy 0, 1000, .inl (fun _ => 0))), (v11, .inl (cy 0, 4000, .inl (fun _ => 0))), (v12, .inl (cy 1, 100, .inl (fun _ => 0)))]) (fun v1 v2 v3 v4 v5 v6 v7 v8 v9 v10 v11 v12 => ⟨v1, v2, v3, v4, v5, v6, v7, v8, v9, v10, v11, v12, rfl⟩)) hx hb hml hown hB hE hN hNA m_627 m_628 m_9 m_629 rfl hdS_Mo_init ⟨(Nat.le_of_ble_eq_true rfl), (Nat.le_of_ble_eq_true rfl), (Nat.le_of_ble_eq_true rfl), (Nat.le_of_ble_eq_true rfl)⟩ hP hD hS hA [43] [0, 1, 2, 3, 4, 5, 6, 7, 8, 9, 10, 11, 12, 13, 14, 15, 16, 17, 18, 19, 20, 21, 22, 23, 24, 25, 26, 27, 28, 29, 30, 31, 32, 33, 34, 35, 36, 37, 38, 39, 40, 41, 42] rfl rfl (by decide) (by decide) hl.1 rfl (Nat.le_of_ble_eq_true rfl) d_La_law_12 (fun w H locs hw hP hD hS => ?_)
  obtain ⟨v1, v2, v3, v4, v5, v6, v7, v8, v9, v10, v11, v12, rfl⟩ := hw
  have hP : va_P G classes [(w0, .inr (7, [.ref w1, .ref w4, .ref w7, .ref w9, .ref w29, .ref w33, .ref w35, .ref w41, .ref w42])), (w1, .inr (0, [.ref w2, .ref w3, .int (1 : Int32), .int 0, .int 0, .int 0, .int 0, .int 0, .int 0, .int 0])), (w2, .inl (cy 0, 12, .inl (fun _ => 0))), (w3, .inl (cy 0, 10, .inl (fun _ => 0))), (w4, .inr (0, [.ref w5, .ref w6, .int (1 : Int32), .int 0, .int 0, .int 0, .int 0, .int 0, .int 0, .int 0])), (w5, .inl (cy 0, 12, .inl (fun _ => 0))), (w6, .inl (cy 0, 10, .inl (fun _ => 0))), (w7, .inr (6, [.ref w8, .int 0, .int 0, .int 0, .int 0, .int 0])), (w8, .inl (cy 0, 120, .inl (fun _ => 0))), (w9, .inr (3, [.ref w10, .int 0, .int 0])), (w10, .inl (cy 2, 6, .inr (.inr (.inr (.inr (va_up (va_up (va_up (va_up (va_up (va_up (fun _ => none) 0 (some w11)) 1 (some w14)) 2 (some w17)) 3 (some w20)) 4 (some w23)) 5 (some w26))))))), (w11, .inr (0, [.ref w12, .ref w13, .int (1 : Int32), .int 0, .int 0, .int 0, .int 0, .int 0, .int 0, .int 0])), (w12, .inl (cy 0, 12, .inl (fun _ => 0))), (w13, .inl (cy 0, 10, .inl (fun _ => 0))), (w14, .inr (0, [.ref w15, .ref w16, .int (1 : Int32), .int 0, .int 0, .int 0, .int 0, .int 0, .int 0, .int 0])), (w15, .inl (cy 0, 12, .inl (fun _ => 0))), (w16, .inl (cy 0, 10, .inl (fun _ => 0))), (w17, .inr (0, [.ref w18, .ref w19, .int (1 : Int32), .int 0, .int 0, .int 0, .int 0, .int 0, .int 0, .int 0])), (w18, .inl (cy 0, 12, .inl (fun _ => 0))), (w19, .inl (cy 0, 10, .inl (fun _ => 0))), (w20, .inr (0, [.ref w21, .ref w22, .int (1 : Int32), .int 0, .int 0, .int 0, .int 0, .int 0, .int 0, .int 0])), (w21, .inl (cy 0, 12, .inl (fun _ => 0))), (w22, .inl (cy 0, 10, .inl (fun _ => 0))), (w23, .inr (0, [.ref w24, .ref w25, .int (1 : Int32), .int 0, .int 0, .int 0, .int 0, .int 0, .int 0, .int 0])), (w24, .inl (cy 0, 12, .inl (fun _ => 0))), (w25, .inl (cy 0, 10, .inl (fun _ => 0))), (w26, .inr (0, [.ref w27, .ref w28, .int (1 : Int32), .int 0, .int 0, .int 0, .int 0, .int 0, .int 0, .int 0])), (w27, .inl (cy 0, 12, .inl (fun _ => 0))), (w28, .inl (cy 0, 10, .inl (fun _ => 0))), (w29, .inr (4, [.ref w30, .ref w31, .ref w32, .int (1 : Int32)])), (w30, .inl (cy 0, 13, .inl (fun _ => 0))), (w31, .inr (1, [.int 0, .int (1 : Int32)])), (w32, .inr (1, [.int 0, .int (1 : Int32)])), (w33, .inr (2, [.ref w34, .int 0, .int 0, .int 0])), (w34, .inl (cy 0, 1000, .inl (fun _ => 0))), (w35, .inr (5, [.ref w36, .ref w37, .ref w38, .ref w39, .ref w40, .int 0, .int 0])), (w36, .inl (cy 0, 6, .inl (fun _ => 0))), (w37, .inl (cy 0, 6, .inl (fun _ => 0))), (w38, .inl (cy 0, 100, .inl (fun _ => 0))), (w39, .inl (cy 0, 100, .inl (fun _ => 0))), (w40, .inl (cy 0, 1000, .inl (fun _ => 0))), (w41, .inr (1, [.int 0, .int (1 : Int32)])), (w42, .inl (cy 2, 2, .inr (.inr (.inr (.inr (fun _ => none)))))), (v0, .inr (8, [.ref v1, .ref v2, .ref v3, .int 0, .ref v4, .ref v5, .ref v6, .ref v7, .int 0, .ref v8, .int 0, .int 0, .int 0, .int 0, .int 0, .int 0, .int 0, .long 0, .long 0, .long 0, .long 0, .ref v9, .ref v10, .ref v11, .ref v12])), (v1, .inl (cy 0, 30, .inl z14)), (v2, .inl (cy 0, 30, .inl z13)), (v3, .inl (cy 0, 180, .inl (fun _ => 0))), (v4, .inl (cy 0, 60, .inl (fun _ => 0))), (v5, .inl (cy 1, 2, .inl (fun _ => 0))), (v6, .inl (cy 0, 6, .inl (fun _ => 0))), (v7, .inl (cy 0, 6, .inl (fun _ => 0))), (v8, .inl (cy 0, 120, .inl (fun _ => 0))), (v9, .inl (cy 0, 1000, .inl (fun _ => 0))), (v10, .inl (cy 0, 1000, .inl (fun _ => 0))), (v11, .inl (cy 0, 4000, .inl (fun _ => 0))), (v12, .inl (cy 1, 100, .inl (fun _ => 0)))] H := hP
  have hD : va_D (fun q : Nat => s.heap.size ≤ q) [(w0, .inr (7, [.ref w1, .ref w4, .ref w7, .ref w9, .ref w29, .ref w33, .ref w35, .ref w41, .ref w42])), (w1, .inr (0, [.ref w2, .ref w3, .int (1 : Int32), .int 0, .int 0, .int 0, .int 0, .int 0, .int 0, .int 0])), (w2, .inl (cy 0, 12, .inl (fun _ => 0))), (w3, .inl (cy 0, 10, .inl (fun _ => 0))), (w4, .inr (0, [.ref w5, .ref w6, .int (1 : Int32), .int 0, .int 0, .int 0, .int 0, .int 0, .int 0, .int 0])), (w5, .inl (cy 0, 12, .inl (fun _ => 0))), (w6, .inl (cy 0, 10, .inl (fun _ => 0))), (w7, .inr (6, [.ref w8, .int 0, .int 0, .int 0, .int 0, .int 0])), (w8, .inl (cy 0, 120, .inl (fun _ => 0))), (w9, .inr (3, [.ref w10, .int 0, .int 0])), (w10, .inl (cy 2, 6, .inr (.inr (.inr (.inr (va_up (va_up (va_up (va_up (va_up (va_up (fun _ => none) 0 (some w11)) 1 (some w14)) 2 (some w17)) 3 (some w20)) 4 (some w23)) 5 (some w26))))))), (w11, .inr (0, [.ref w12, .ref w13, .int (1 : Int32), .int 0, .int 0, .int 0, .int 0, .int 0, .int 0, .int 0])), (w12, .inl (cy 0, 12, .inl (fun _ => 0))), (w13, .inl (cy 0, 10, .inl (fun _ => 0))), (w14, .inr (0, [.ref w15, .ref w16, .int (1 : Int32), .int 0, .int 0, .int 0, .int 0, .int 0, .int 0, .int 0])), (w15, .inl (cy 0, 12, .inl (fun _ => 0))), (w16, .inl (cy 0, 10, .inl (fun _ => 0))), (w17, .inr (0, [.ref w18, .ref w19, .int (1 : Int32), .int 0, .int 0, .int 0, .int 0, .int 0, .int 0, .int 0])), (w18, .inl (cy 0, 12, .inl (fun _ => 0))), (w19, .inl (cy 0, 10, .inl (fun _ => 0))), (w20, .inr (0, [.ref w21, .ref w22, .int (1 : Int32), .int 0, .int 0, .int 0, .int 0, .int 0, .int 0, .int 0])), (w21, .inl (cy 0, 12, .inl (fun _ => 0))), (w22, .inl (cy 0, 10, .inl (fun _ => 0))), (w23, .inr (0, [.ref w24, .ref w25, .int (1 : Int32), .int 0, .int 0, .int 0, .int 0, .int 0, .int 0, .int 0])), (w24, .inl (cy 0, 12, .inl (fun _ => 0))), (w25, .inl (cy 0, 10, .inl (fun _ => 0))), (w26, .inr (0, [.ref w27, .ref w28, .int (1 : Int32), .int 0, .int 0, .int 0, .int 0, .int 0, .int 0, .int 0])), (w27, .inl (cy 0, 12, .inl (fun _ => 0))), (w28, .inl (cy 0, 10, .inl (fun _ => 0))), (w29, .inr (4, [.ref w30, .ref w31, .ref w32, .int (1 : Int32)])), (w30, .inl (cy 0, 13, .inl (fun _ => 0))), (w31, .inr (1, [.int 0, .int (1 : Int32)])), (w32, .inr (1, [.int 0, .int (1 : Int32)])), (w33, .inr (2, [.ref w34, .int 0, .int 0, .int 0])), (w34, .inl (cy 0, 1000, .inl (fun _ => 0))), (w35, .inr (5, [.ref w36, .ref w37, .ref w38, .ref w39, .ref w40, .int 0, .int 0])), (w36, .inl (cy 0, 6, .inl (fun _ => 0))), (w37, .inl (cy 0, 6, .inl (fun _ => 0))), (w38, .inl (cy 0, 100, .inl (fun _ => 0))), (w39, .inl (cy 0, 100, .inl (fun _ => 0))), (w40, .inl (cy 0, 1000, .inl (fun _ => 0))), (w41, .inr (1, [.int 0, .int (1 : Int32)])), (w42, .inl (cy 2, 2, .inr (.inr (.inr (.inr (fun _ => none)))))), (v0, .inr (8, [.ref v1, .ref v2, .ref v3, .int 0, .ref v4, .ref v5, .ref v6, .ref v7, .int 0, .ref v8, .int 0, .int 0, .int 0, .int 0, .int 0, .int 0, .int 0, .long 0, .long 0, .long 0, .long 0, .ref v9, .ref v10, .ref v11, .ref v12])), (v1, .inl (cy 0, 30, .inl z14)), (v2, .inl (cy 0, 30, .inl z13)), (v3, .inl (cy 0, 180, .inl (fun _ => 0))), (v4, .inl (cy 0, 60, .inl (fun _ => 0))), (v5, .inl (cy 1, 2, .inl (fun _ => 0))), (v6, .inl (cy 0, 6, .inl (fun _ => 0))), (v7, .inl (cy 0, 6, .inl (fun _ => 0))), (v8, .inl (cy 0, 120, .inl (fun _ => 0))), (v9, .inl (cy 0, 1000, .inl (fun _ => 0))), (v10, .inl (cy 0, 1000, .inl (fun _ => 0))), (v11, .inl (cy 0, 4000, .inl (fun _ => 0))), (v12, .inl (cy 1, 100, .inl (fun _ => 0)))] := hD
  refine lv_astore_n (lv' := [(2, .ref v0), (1, .ref w0), (0, .ref b)]) hx hb d_La_law_15 rfl hl (by decide) rfl (fun ls hl => ?_)
  refine lv_iconst (v := (0 : Int32)) hx hb d_La_law_16 (by decide) ?_
  refine lv_istore_n (lv' := [(3, .int (0 : Int32)), (2, .ref v0), (1, .ref w0), (0, .ref b)]) hx hb d_La_law_17 rfl hl (by decide) rfl (fun ls hl => ?_)
  have hP := hP.setq 10 (g := fun i => some ((fun k => ([w11, w14, w17, w20, w23, w26] : List Nat).getD k 0) i)) rfl (by
    intro j hj
    match j, hj with
    | 0, _ => rfl
    | 1, _ => rfl
    | 2, _ => rfl
    | 3, _ => rfl
    | 4, _ => rfl
    | 5, _ => rfl
    | j + 6, hj => exact absurd hj (by omega))
  have hD := hD.setq 10 (e := .inl (cy 2, 6, .inr (.inr (.inr (.inr (fun i => some ((fun k => ([w11, w14, w17, w20, w23, w26] : List Nat).getD k 0) i))))))) rfl
  refine W.widen (k := 56) (n := 9207) (Nat.le_of_ble_eq_true rfl) (Nat.le_of_ble_eq_true rfl) ?_
  exact law_loop hL C0 hE 513 0 56 9207 (Nat.zero_le _) (by omega) (by decide) (by decide) (fun k => ([w0, w1, w2, w3, w4, w5, w6, w7, w8, w9, w10, w29, w30, w31, w32, w33, w34, w35, w36, w37, w38, w39, w40, w41, w42] : List Nat).getD k 0) (fun k => ([w11, w14, w17, w20, w23, w26] : List Nat).getD k 0) (fun k => ([w12, w15, w18, w21, w24, w27] : List Nat).getD k 0) (fun k => ([w13, w16, w19, w22, w25, w28] : List Nat).getD k 0) (fun _ => none) (fun _ => 0) (fun _ => 0) (fun k => ([(1 : Int32), (0 : Int32), (0 : Int32), (0 : Int32), (0 : Int32), (0 : Int32), (0 : Int32), (0 : Int32), (1 : Int32), (0 : Int32), (0 : Int32), (0 : Int32), (0 : Int32), (0 : Int32), (0 : Int32), (0 : Int32), (0 : Int32), (0 : Int32), (0 : Int32), (0 : Int32), (0 : Int32), (0 : Int32), (0 : Int32), (1 : Int32), (0 : Int32), (1 : Int32), (0 : Int32), (1 : Int32), (0 : Int32), (0 : Int32), (0 : Int32), (0 : Int32), (0 : Int32), (0 : Int32), (1 : Int32)] : List Int32).getD k 0) (fun _ _ => 0) (fun _ _ => 0) (fun _ _ => 0) (fun _ k => match k with | 0 => 1 | _ => 0) (fun _ _ => 0) (fun _ _ => 0) (fun _ _ => 0) (fun k => ([v0, v1, v2, v3, v4, v5, v6, v7, v8, v9, v10, v11, v12] : List Nat).getD k 0) (fun _ => 0) (fun k => match k with | 0 => z14 | 1 => z13 | _ => fun _ => 0) (fun _ => 0) hRel _ _ hP hD hS _ (lv_sub hl [3, 2, 1, 0] rfl)
