set_option maxHeartbeats 4000000 in
set_option maxRecDepth 100000 in
theorem t_Mo_begin (l : Launch) (G : va_G) (cy : Nat → ClassId) (kz : Nat → Nat) (N0 : Nat) (z : Nat) (z_deeds : Int32) (z_seen : Int32) (z_letters : Int32) (z_at : Int32) (z_tokenAt : Int32) (z_tokenSort : Int32) (z_tokenValue : Int32) (z_items : Int32) (z_toldItems : Int32) (z_fromAbove : Int64) (z_fromBelow : Int64) (z_toAbove : Int64) (z_toBelow : Int64) (z_now_a : Nat) (z_now : Nat → Int32) (z_read_a : Nat) (z_read : Nat → Int32) (z_past_a : Nat) (z_past : Nat → Int32) (z_images_a : Nat) (z_images : Nat → Int32) (z_isKept_a : Nat) (z_isKept : Nat → Int32) (z_seenAt_a : Nat) (z_seenAt : Nat → Int32) (z_seenVolume_a : Nat) (z_seenVolume : Nat → Int32) (z_text_a : Nat) (z_text : Nat → Int32) (z_firstAt_a : Nat) (z_firstAt : Nat → Int32) (z_failedBy_a : Nat) (z_failedBy : Nat → Int32) (z_volumes_a : Nat) (z_volumes : Nat → Int32) (z_fit_a : Nat) (z_fit : Nat → Int32) (out : (Nat → Int32)) (h0 : f_Mo_begin z_read = some out) (Bp : va_W → Prop) (hBp : Bp [(z, .inr (8, [.ref z_now_a, .ref z_read_a, .ref z_past_a, .int z_deeds, .ref z_images_a, .ref z_isKept_a, .ref z_seenAt_a, .ref z_seenVolume_a, .int z_seen, .ref z_text_a, .int z_letters, .int z_at, .int z_tokenAt, .int z_tokenSort, .int z_tokenValue, .int z_items, .int z_toldItems, .long z_fromAbove, .long z_fromBelow, .long z_toAbove, .long z_toBelow, .ref z_firstAt_a, .ref z_failedBy_a, .ref z_volumes_a, .ref z_fit_a])), (z_now_a, .inl (cy 0, 30, .inl z_now)), (z_read_a, .inl (cy 0, 30, .inl out)), (z_past_a, .inl (cy 0, 180, .inl z_past)), (z_images_a, .inl (cy 0, 60, .inl z_images)), (z_isKept_a, .inl (cy 1, 2, .inl z_isKept)), (z_seenAt_a, .inl (cy 0, 6, .inl z_seenAt)), (z_seenVolume_a, .inl (cy 0, 6, .inl z_seenVolume)), (z_text_a, .inl (cy 0, 120, .inl z_text)), (z_firstAt_a, .inl (cy 0, 1000, .inl z_firstAt)), (z_failedBy_a, .inl (cy 0, 1000, .inl z_failedBy)), (z_volumes_a, .inl (cy 0, 4000, .inl z_volumes)), (z_fit_a, .inl (cy 1, 100, .inl z_fit))]) : CT l G cy kz N0 y_Mo_begin b_Mo_begin 2 none 0 0 0 [.ref z] [(z, .inr (8, [.ref z_now_a, .ref z_read_a, .ref z_past_a, .int z_deeds, .ref z_images_a, .ref z_isKept_a, .ref z_seenAt_a, .ref z_seenVolume_a, .int z_seen, .ref z_text_a, .int z_letters, .int z_at, .int z_tokenAt, .int z_tokenSort, .int z_tokenValue, .int z_items, .int z_toldItems, .long z_fromAbove, .long z_fromBelow, .long z_toAbove, .long z_toBelow, .ref z_firstAt_a, .ref z_failedBy_a, .ref z_volumes_a, .ref z_fit_a])), (z_now_a, .inl (cy 0, 30, .inl z_now)), (z_read_a, .inl (cy 0, 30, .inl z_read)), (z_past_a, .inl (cy 0, 180, .inl z_past)), (z_images_a, .inl (cy 0, 60, .inl z_images)), (z_isKept_a, .inl (cy 1, 2, .inl z_isKept)), (z_seenAt_a, .inl (cy 0, 6, .inl z_seenAt)), (z_seenVolume_a, .inl (cy 0, 6, .inl z_seenVolume)), (z_text_a, .inl (cy 0, 120, .inl z_text)), (z_firstAt_a, .inl (cy 0, 1000, .inl z_firstAt)), (z_failedBy_a, .inl (cy 0, 1000, .inl z_failedBy)), (z_volumes_a, .inl (cy 0, 4000, .inl z_volumes)), (z_fit_a, .inl (cy 1, 100, .inl z_fit))] none Bp := by
  refine CT.of (by decide) (Nat.le_of_ble_eq_true rfl) ?_
  intro p e s m below meth c A ls hx hb hr hml hB hown hlocks hnm hE hN hA hNA hP hD hS hl
  have hown : s.vm.findClass "YieldDeskModel" = some m.cls := hown
  have hl : lv_has ls 2 [(0, .ref z)] := hl
  have hf := h0
  unfold f_Mo_begin at hf
  refine lv_iconst (v := (0 : Int32)) hx hb d_Mo_begin_0 (by decide) ?_
  refine lv_istore_n (lv' := [(1, .int (0 : Int32)), (0, .ref z)]) hx hb d_Mo_begin_1 rfl hl (by decide) rfl (fun ls hl => ?_)
  obtain ⟨z4, hz4, hf⟩ := obn hf
  have K1 : ∀ (H : Heap) (locs : List Loc), va_P G classes [(z, .inr (8, [.ref z_now_a, .ref z_read_a, .ref z_past_a, .int z_deeds, .ref z_images_a, .ref z_isKept_a, .ref z_seenAt_a, .ref z_seenVolume_a, .int z_seen, .ref z_text_a, .int z_letters, .int z_at, .int z_tokenAt, .int z_tokenSort, .int z_tokenValue, .int z_items, .int z_toldItems, .long z_fromAbove, .long z_fromBelow, .long z_toAbove, .long z_toBelow, .ref z_firstAt_a, .ref z_failedBy_a, .ref z_volumes_a, .ref z_fit_a])), (z_now_a, .inl (cy 0, 30, .inl z_now)), (z_read_a, .inl (cy 0, 30, .inl z4.2)), (z_past_a, .inl (cy 0, 180, .inl z_past)), (z_images_a, .inl (cy 0, 60, .inl z_images)), (z_isKept_a, .inl (cy 1, 2, .inl z_isKept)), (z_seenAt_a, .inl (cy 0, 6, .inl z_seenAt)), (z_seenVolume_a, .inl (cy 0, 6, .inl z_seenVolume)), (z_text_a, .inl (cy 0, 120, .inl z_text)), (z_firstAt_a, .inl (cy 0, 1000, .inl z_firstAt)), (z_failedBy_a, .inl (cy 0, 1000, .inl z_failedBy)), (z_volumes_a, .inl (cy 0, 4000, .inl z_volumes)), (z_fit_a, .inl (cy 1, 100, .inl z_fit))] H → va_D A [(z, .inr (8, [.ref z_now_a, .ref z_read_a, .ref z_past_a, .int z_deeds, .ref z_images_a, .ref z_isKept_a, .ref z_seenAt_a, .ref z_seenVolume_a, .int z_seen, .ref z_text_a, .int z_letters, .int z_at, .int z_tokenAt, .int z_tokenSort, .int z_tokenValue, .int z_items, .int z_toldItems, .long z_fromAbove, .long z_fromBelow, .long z_toAbove, .long z_toBelow, .ref z_firstAt_a, .ref z_failedBy_a, .ref z_volumes_a, .ref z_fit_a])), (z_now_a, .inl (cy 0, 30, .inl z_now)), (z_read_a, .inl (cy 0, 30, .inl z4.2)), (z_past_a, .inl (cy 0, 180, .inl z_past)), (z_images_a, .inl (cy 0, 60, .inl z_images)), (z_isKept_a, .inl (cy 1, 2, .inl z_isKept)), (z_seenAt_a, .inl (cy 0, 6, .inl z_seenAt)), (z_seenVolume_a, .inl (cy 0, 6, .inl z_seenVolume)), (z_text_a, .inl (cy 0, 120, .inl z_text)), (z_firstAt_a, .inl (cy 0, 1000, .inl z_firstAt)), (z_failedBy_a, .inl (cy 0, 1000, .inl z_failedBy)), (z_volumes_a, .inl (cy 0, 4000, .inl z_volumes)), (z_fit_a, .inl (cy 1, 100, .inl z_fit))] → va_S A s.heap H locs → ∀ (ls : Array Slot), lv_has ls 2 [(0, .ref z), (1, .int z4.1)] → W p l e (RM 0 0 0) s m ([.ref z] : List Value).toArray below meth c H locs 0 0 (MQ below (CQ G none Bp A) ([.ref z] : List Value).toArray s 0 0 A) (F0 m 29 ls []) := by
    intro H locs hP hD hS ls hl
    obtain rfl := Option.some.inj hf
    exact W.vret hx hb hr (x_ret hP hD hS hBp) hS.2.2 d_Mo_begin_29
  clear hf
  have L3 : ∀ (n : Nat) (i1_2 : Int32) (z_read_2 : Nat → Int32), f_Mo_begin_L2 n i1_2 z_read_2 = some z4 → ∀ (H : Heap) (locs : List Loc), va_P G classes [(z, .inr (8, [.ref z_now_a, .ref z_read_a, .ref z_past_a, .int z_deeds, .ref z_images_a, .ref z_isKept_a, .ref z_seenAt_a, .ref z_seenVolume_a, .int z_seen, .ref z_text_a, .int z_letters, .int z_at, .int z_tokenAt, .int z_tokenSort, .int z_tokenValue, .int z_items, .int z_toldItems, .long z_fromAbove, .long z_fromBelow, .long z_toAbove, .long z_toBelow, .ref z_firstAt_a, .ref z_failedBy_a, .ref z_volumes_a, .ref z_fit_a])), (z_now_a, .inl (cy 0, 30, .inl z_now)), (z_read_a, .inl (cy 0, 30, .inl z_read_2)), (z_past_a, .inl (cy 0, 180, .inl z_past)), (z_images_a, .inl (cy 0, 60, .inl z_images)), (z_isKept_a, .inl (cy 1, 2, .inl z_isKept)), (z_seenAt_a, .inl (cy 0, 6, .inl z_seenAt)), (z_seenVolume_a, .inl (cy 0, 6, .inl z_seenVolume)), (z_text_a, .inl (cy 0, 120, .inl z_text)), (z_firstAt_a, .inl (cy 0, 1000, .inl z_firstAt)), (z_failedBy_a, .inl (cy 0, 1000, .inl z_failedBy)), (z_volumes_a, .inl (cy 0, 4000, .inl z_volumes)), (z_fit_a, .inl (cy 1, 100, .inl z_fit))] H → va_D A [(z, .inr (8, [.ref z_now_a, .ref z_read_a, .ref z_past_a, .int z_deeds, .ref z_images_a, .ref z_isKept_a, .ref z_seenAt_a, .ref z_seenVolume_a, .int z_seen, .ref z_text_a, .int z_letters, .int z_at, .int z_tokenAt, .int z_tokenSort, .int z_tokenValue, .int z_items, .int z_toldItems, .long z_fromAbove, .long z_fromBelow, .long z_toAbove, .long z_toBelow, .ref z_firstAt_a, .ref z_failedBy_a, .ref z_volumes_a, .ref z_fit_a])), (z_now_a, .inl (cy 0, 30, .inl z_now)), (z_read_a, .inl (cy 0, 30, .inl z_read_2)), (z_past_a, .inl (cy 0, 180, .inl z_past)), (z_images_a, .inl (cy 0, 60, .inl z_images)), (z_isKept_a, .inl (cy 1, 2, .inl z_isKept)), (z_seenAt_a, .inl (cy 0, 6, .inl z_seenAt)), (z_seenVolume_a, .inl (cy 0, 6, .inl z_seenVolume)), (z_text_a, .inl (cy 0, 120, .inl z_text)), (z_firstAt_a, .inl (cy 0, 1000, .inl z_firstAt)), (z_failedBy_a, .inl (cy 0, 1000, .inl z_failedBy)), (z_volumes_a, .inl (cy 0, 4000, .inl z_volumes)), (z_fit_a, .inl (cy 1, 100, .inl z_fit))] → va_S A s.heap H locs → ∀ (ls : Array Slot), lv_has ls 2 [(0, .ref z), (1, .int i1_2)] → W p l e (RM 0 0 0) s m ([.ref z] : List Value).toArray below meth c H locs 0 0 (MQ below (CQ G none Bp A) ([.ref z] : List Value).toArray s 0 0 A) (F0 m 2 ls []) := by
    intro n
    induction n with
    | zero => intro i1_2 z_read_2 hf; exact absurd ((f_Mo_begin_L2_z  i1_2 z_read_2).symm.trans hf) (by intro h; cases h)
    | succ n ih =>
      intro i1_2 z_read_2 hf H locs hP hD hS ls hl
      replace hf := (f_Mo_begin_L2_s  n i1_2 z_read_2).symm.trans hf
      refine lv_iload_n hx hb d_Mo_begin_2 rfl (lv_at hl 1 rfl) ?_
      refine lv_bipush (v := (30 : Int32)) hx hb d_Mo_begin_3 (by decide) ?_
      refine lv_icmp_ge (tgt := 29) hx hb d_Mo_begin_5 (by decide) (fun hc5 => ?_) (fun hc5 => ?_)
      · replace hf := iteP hc5 hf
        obtain rfl := Option.some.inj hf
        exact K1 _ _ hP hD hS _ (lv_sub hl [0, 1] rfl)
      · replace hf := iteN hc5 hf
        refine lv_aload_n hx hb d_Mo_begin_8 rfl (lv_at hl 0 rfl) ?_
        refine va_get (D := G) (ci := 8) (v := .ref z_read_a) (C := "YieldDeskModel") (T := F_Mo) (N := 25) hx hb hB fi_Mo hown hE.1 hP 0 rfl rfl 1 (by decide) (hB _ m_639) (fun _ h9 => h9) rfl d_Mo_begin_9 ?_
        refine lv_iload_n hx hb d_Mo_begin_12 rfl (lv_at hl 1 rfl) ?_
        refine lv_iload_n hx hb d_Mo_begin_13 rfl (lv_at hl 1 rfl) ?_
        refine lv_if_ne (tgt := 21) hx hb d_Mo_begin_14 (by decide) (fun hc6 => ?_) (fun hc6 => ?_)
        · replace hf := iteN hc6 hf
          refine lv_iconst (v := (0 : Int32)) hx hb d_Mo_begin_21 (by decide) ?_
          obtain ⟨hg7, hf⟩ := gdn hf
          refine va_iast hx hb hE.1 hP hD hS 2 0 rfl rfl hg7 d_Mo_begin_22 (fun H locs hP hD hS => ?_)
          have hP : va_P G classes [(z, .inr (8, [.ref z_now_a, .ref z_read_a, .ref z_past_a, .int z_deeds, .ref z_images_a, .ref z_isKept_a, .ref z_seenAt_a, .ref z_seenVolume_a, .int z_seen, .ref z_text_a, .int z_letters, .int z_at, .int z_tokenAt, .int z_tokenSort, .int z_tokenValue, .int z_items, .int z_toldItems, .long z_fromAbove, .long z_fromBelow, .long z_toAbove, .long z_toBelow, .ref z_firstAt_a, .ref z_failedBy_a, .ref z_volumes_a, .ref z_fit_a])), (z_now_a, .inl (cy 0, 30, .inl z_now)), (z_read_a, .inl (cy 0, 30, .inl (upd z_read_2 i1_2.toNatClampNeg (0 : Int32)))), (z_past_a, .inl (cy 0, 180, .inl z_past)), (z_images_a, .inl (cy 0, 60, .inl z_images)), (z_isKept_a, .inl (cy 1, 2, .inl z_isKept)), (z_seenAt_a, .inl (cy 0, 6, .inl z_seenAt)), (z_seenVolume_a, .inl (cy 0, 6, .inl z_seenVolume)), (z_text_a, .inl (cy 0, 120, .inl z_text)), (z_firstAt_a, .inl (cy 0, 1000, .inl z_firstAt)), (z_failedBy_a, .inl (cy 0, 1000, .inl z_failedBy)), (z_volumes_a, .inl (cy 0, 4000, .inl z_volumes)), (z_fit_a, .inl (cy 1, 100, .inl z_fit))] H := hP
          have hD : va_D A [(z, .inr (8, [.ref z_now_a, .ref z_read_a, .ref z_past_a, .int z_deeds, .ref z_images_a, .ref z_isKept_a, .ref z_seenAt_a, .ref z_seenVolume_a, .int z_seen, .ref z_text_a, .int z_letters, .int z_at, .int z_tokenAt, .int z_tokenSort, .int z_tokenValue, .int z_items, .int z_toldItems, .long z_fromAbove, .long z_fromBelow, .long z_toAbove, .long z_toBelow, .ref z_firstAt_a, .ref z_failedBy_a, .ref z_volumes_a, .ref z_fit_a])), (z_now_a, .inl (cy 0, 30, .inl z_now)), (z_read_a, .inl (cy 0, 30, .inl (upd z_read_2 i1_2.toNatClampNeg (0 : Int32)))), (z_past_a, .inl (cy 0, 180, .inl z_past)), (z_images_a, .inl (cy 0, 60, .inl z_images)), (z_isKept_a, .inl (cy 1, 2, .inl z_isKept)), (z_seenAt_a, .inl (cy 0, 6, .inl z_seenAt)), (z_seenVolume_a, .inl (cy 0, 6, .inl z_seenVolume)), (z_text_a, .inl (cy 0, 120, .inl z_text)), (z_firstAt_a, .inl (cy 0, 1000, .inl z_firstAt)), (z_failedBy_a, .inl (cy 0, 1000, .inl z_failedBy)), (z_volumes_a, .inl (cy 0, 4000, .inl z_volumes)), (z_fit_a, .inl (cy 1, 100, .inl z_fit))] := hD
          refine lv_iinc (v := (i1_2 + (1 : Int32))) (lv' := [(1, .int (i1_2 + (1 : Int32))), (0, .ref z)]) hx hb d_Mo_begin_23 hl (k := 1) rfl rfl (by decide) rfl (fun ls hl => ?_)
          refine lv_goto (tgt := 2) hx hb d_Mo_begin_26 (by decide) ?_
          exact ih (i1_2 + (1 : Int32)) (upd z_read_2 i1_2.toNatClampNeg (0 : Int32)) hf _ _ hP hD hS _ (lv_sub hl [1, 0] rfl)
        · replace hf := iteP hc6 hf
          refine lv_iconst (v := (1 : Int32)) hx hb d_Mo_begin_17 (by decide) ?_
          refine lv_goto (tgt := 22) hx hb d_Mo_begin_18 (by decide) ?_
          obtain ⟨hg8, hf⟩ := gdn hf
          refine va_iast hx hb hE.1 hP hD hS 2 0 rfl rfl hg8 d_Mo_begin_22 (fun H locs hP hD hS => ?_)
          have hP : va_P G classes [(z, .inr (8, [.ref z_now_a, .ref z_read_a, .ref z_past_a, .int z_deeds, .ref z_images_a, .ref z_isKept_a, .ref z_seenAt_a, .ref z_seenVolume_a, .int z_seen, .ref z_text_a, .int z_letters, .int z_at, .int z_tokenAt, .int z_tokenSort, .int z_tokenValue, .int z_items, .int z_toldItems, .long z_fromAbove, .long z_fromBelow, .long z_toAbove, .long z_toBelow, .ref z_firstAt_a, .ref z_failedBy_a, .ref z_volumes_a, .ref z_fit_a])), (z_now_a, .inl (cy 0, 30, .inl z_now)), (z_read_a, .inl (cy 0, 30, .inl (upd z_read_2 i1_2.toNatClampNeg (1 : Int32)))), (z_past_a, .inl (cy 0, 180, .inl z_past)), (z_images_a, .inl (cy 0, 60, .inl z_images)), (z_isKept_a, .inl (cy 1, 2, .inl z_isKept)), (z_seenAt_a, .inl (cy 0, 6, .inl z_seenAt)), (z_seenVolume_a, .inl (cy 0, 6, .inl z_seenVolume)), (z_text_a, .inl (cy 0, 120, .inl z_text)), (z_firstAt_a, .inl (cy 0, 1000, .inl z_firstAt)), (z_failedBy_a, .inl (cy 0, 1000, .inl z_failedBy)), (z_volumes_a, .inl (cy 0, 4000, .inl z_volumes)), (z_fit_a, .inl (cy 1, 100, .inl z_fit))] H := hP
          have hD : va_D A [(z, .inr (8, [.ref z_now_a, .ref z_read_a, .ref z_past_a, .int z_deeds, .ref z_images_a, .ref z_isKept_a, .ref z_seenAt_a, .ref z_seenVolume_a, .int z_seen, .ref z_text_a, .int z_letters, .int z_at, .int z_tokenAt, .int z_tokenSort, .int z_tokenValue, .int z_items, .int z_toldItems, .long z_fromAbove, .long z_fromBelow, .long z_toAbove, .long z_toBelow, .ref z_firstAt_a, .ref z_failedBy_a, .ref z_volumes_a, .ref z_fit_a])), (z_now_a, .inl (cy 0, 30, .inl z_now)), (z_read_a, .inl (cy 0, 30, .inl (upd z_read_2 i1_2.toNatClampNeg (1 : Int32)))), (z_past_a, .inl (cy 0, 180, .inl z_past)), (z_images_a, .inl (cy 0, 60, .inl z_images)), (z_isKept_a, .inl (cy 1, 2, .inl z_isKept)), (z_seenAt_a, .inl (cy 0, 6, .inl z_seenAt)), (z_seenVolume_a, .inl (cy 0, 6, .inl z_seenVolume)), (z_text_a, .inl (cy 0, 120, .inl z_text)), (z_firstAt_a, .inl (cy 0, 1000, .inl z_firstAt)), (z_failedBy_a, .inl (cy 0, 1000, .inl z_failedBy)), (z_volumes_a, .inl (cy 0, 4000, .inl z_volumes)), (z_fit_a, .inl (cy 1, 100, .inl z_fit))] := hD
          refine lv_iinc (v := (i1_2 + (1 : Int32))) (lv' := [(1, .int (i1_2 + (1 : Int32))), (0, .ref z)]) hx hb d_Mo_begin_23 hl (k := 1) rfl rfl (by decide) rfl (fun ls hl => ?_)
          refine lv_goto (tgt := 2) hx hb d_Mo_begin_26 (by decide) ?_
          exact ih (i1_2 + (1 : Int32)) (upd z_read_2 i1_2.toNatClampNeg (1 : Int32)) hf _ _ hP hD hS _ (lv_sub hl [1, 0] rfl)
  exact L3 FU (0 : Int32) z_read hz4 _ _ hP hD hS _ (lv_sub hl [1, 0] rfl)
set_option maxHeartbeats 4000000 in
set_option maxRecDepth 100000 in
theorem t_Mo_bring (l : Launch) (G : va_G) (cy : Nat → ClassId) (kz : Nat → Nat) (N0 : Nat) (p0_a : Nat) (p0_n : Nat) (p0_v : Nat → Int32) (p1 : Int32) (p2_a : Nat) (p2_n : Nat) (p2_v : Nat → Int32) (p3 : Int32) (out : (Nat → Int32)) (h0 : f_Mo_bring p0_n p0_v p1 p2_n p2_v p3 = some out) (Bp : va_W → Prop) (hBp : Bp [(p0_a, .inl (cy 0, p0_n, .inl p0_v)), (p2_a, .inl (cy 0, p2_n, .inl out))]) : CT l G cy kz N0 y_Mo_bring b_Mo_bring 5 none 0 0 0 [.ref p0_a, .int p1, .ref p2_a, .int p3] [(p0_a, .inl (cy 0, p0_n, .inl p0_v)), (p2_a, .inl (cy 0, p2_n, .inl p2_v))] none Bp := by
  refine CT.of (by decide) (Nat.le_of_ble_eq_true rfl) ?_
  intro p e s m below meth c A ls hx hb hr hml hB hown hlocks hnm hE hN hA hNA hP hD hS hl
  have hown : s.vm.findClass "YieldDeskModel" = some m.cls := hown
  have hl : lv_has ls 5 [(0, .ref p0_a), (1, .int p1), (2, .ref p2_a), (3, .int p3)] := hl
  have hf := h0
  unfold f_Mo_bring at hf
  refine lv_iconst (v := (0 : Int32)) hx hb d_Mo_bring_0 (by decide) ?_
  refine lv_istore (lv' := [(4, .int (0 : Int32)), (0, .ref p0_a), (1, .int p1), (2, .ref p2_a), (3, .int p3)]) hx hb d_Mo_bring_1 hl (by decide) rfl (fun ls hl => ?_)
  obtain ⟨z4, hz4, hf⟩ := obn hf
  have K1 : ∀ (H : Heap) (locs : List Loc), va_P G classes [(p0_a, .inl (cy 0, p0_n, .inl p0_v)), (p2_a, .inl (cy 0, p2_n, .inl z4.2))] H → va_D A [(p0_a, .inl (cy 0, p0_n, .inl p0_v)), (p2_a, .inl (cy 0, p2_n, .inl z4.2))] → va_S A s.heap H locs → ∀ (ls : Array Slot), lv_has ls 5 [(0, .ref p0_a), (1, .int p1), (2, .ref p2_a), (3, .int p3), (4, .int z4.1)] → W p l e (RM 0 0 0) s m ([.ref p0_a, .int p1, .ref p2_a, .int p3] : List Value).toArray below meth c H locs 0 0 (MQ below (CQ G none Bp A) ([.ref p0_a, .int p1, .ref p2_a, .int p3] : List Value).toArray s 0 0 A) (F0 m 28 ls []) := by
    intro H locs hP hD hS ls hl
    obtain rfl := Option.some.inj hf
    exact W.vret hx hb hr (x_ret hP hD hS hBp) hS.2.2 d_Mo_bring_28
  clear hf
  have L3 : ∀ (n : Nat) (i4_3 : Int32) (p2_v_3 : Nat → Int32), f_Mo_bring_L3 p0_n p0_v p1 p2_n p3 n i4_3 p2_v_3 = some z4 → ∀ (H : Heap) (locs : List Loc), va_P G classes [(p0_a, .inl (cy 0, p0_n, .inl p0_v)), (p2_a, .inl (cy 0, p2_n, .inl p2_v_3))] H → va_D A [(p0_a, .inl (cy 0, p0_n, .inl p0_v)), (p2_a, .inl (cy 0, p2_n, .inl p2_v_3))] → va_S A s.heap H locs → ∀ (ls : Array Slot), lv_has ls 5 [(0, .ref p0_a), (1, .int p1), (2, .ref p2_a), (3, .int p3), (4, .int i4_3)] → W p l e (RM 0 0 0) s m ([.ref p0_a, .int p1, .ref p2_a, .int p3] : List Value).toArray below meth c H locs 0 0 (MQ below (CQ G none Bp A) ([.ref p0_a, .int p1, .ref p2_a, .int p3] : List Value).toArray s 0 0 A) (F0 m 3 ls []) := by
    intro n
    induction n with
    | zero => intro i4_3 p2_v_3 hf; exact absurd ((f_Mo_bring_L3_z p0_n p0_v p1 p2_n p3 i4_3 p2_v_3).symm.trans hf) (by intro h; cases h)
    | succ n ih =>
      intro i4_3 p2_v_3 hf H locs hP hD hS ls hl
      replace hf := (f_Mo_bring_L3_s p0_n p0_v p1 p2_n p3 n i4_3 p2_v_3).symm.trans hf
      refine lv_iload hx hb d_Mo_bring_3 (lv_at hl 4 rfl) ?_
      refine lv_bipush (v := (30 : Int32)) hx hb d_Mo_bring_5 (by decide) ?_
      refine lv_icmp_ge (tgt := 28) hx hb d_Mo_bring_7 (by decide) (fun hc5 => ?_) (fun hc5 => ?_)
      · replace hf := iteP hc5 hf
        obtain rfl := Option.some.inj hf
        exact K1 _ _ hP hD hS _ (lv_sub hl [0, 1, 2, 3, 4] rfl)
      · replace hf := iteN hc5 hf
        refine lv_aload_n hx hb d_Mo_bring_10 rfl (lv_at hl 2 rfl) ?_
        refine lv_iload_n hx hb d_Mo_bring_11 rfl (lv_at hl 3 rfl) ?_
        refine lv_iload hx hb d_Mo_bring_12 (lv_at hl 4 rfl) ?_
        refine lv_iadd hx hb d_Mo_bring_14 ?_
        refine lv_aload_n hx hb d_Mo_bring_15 rfl (lv_at hl 0 rfl) ?_
        refine lv_iload_n hx hb d_Mo_bring_16 rfl (lv_at hl 1 rfl) ?_
        refine lv_iload hx hb d_Mo_bring_17 (lv_at hl 4 rfl) ?_
        refine lv_iadd hx hb d_Mo_bring_19 ?_
        obtain ⟨hg6, hf⟩ := gdn hf
        refine va_iald hx hb hE.1 hP 0 0 rfl rfl hg6 d_Mo_bring_20 ?_
        obtain ⟨hg7, hf⟩ := gdn hf
        refine va_iast hx hb hE.1 hP hD hS 1 0 rfl rfl hg7 d_Mo_bring_21 (fun H locs hP hD hS => ?_)
        have hP : va_P G classes [(p0_a, .inl (cy 0, p0_n, .inl p0_v)), (p2_a, .inl (cy 0, p2_n, .inl (upd p2_v_3 (p3 + i4_3).toNatClampNeg (p0_v (p1 + i4_3).toNatClampNeg))))] H := hP
        have hD : va_D A [(p0_a, .inl (cy 0, p0_n, .inl p0_v)), (p2_a, .inl (cy 0, p2_n, .inl (upd p2_v_3 (p3 + i4_3).toNatClampNeg (p0_v (p1 + i4_3).toNatClampNeg))))] := hD
        refine lv_iinc (v := (i4_3 + (1 : Int32))) (lv' := [(4, .int (i4_3 + (1 : Int32))), (0, .ref p0_a), (1, .int p1), (2, .ref p2_a), (3, .int p3)]) hx hb d_Mo_bring_22 hl (k := 4) rfl rfl (by decide) rfl (fun ls hl => ?_)
        refine lv_goto (tgt := 3) hx hb d_Mo_bring_25 (by decide) ?_
        exact ih (i4_3 + (1 : Int32)) (upd p2_v_3 (p3 + i4_3).toNatClampNeg (p0_v (p1 + i4_3).toNatClampNeg)) hf _ _ hP hD hS _ (lv_sub hl [1, 2, 3, 4, 0] rfl)
  exact L3 FU (0 : Int32) p2_v hz4 _ _ hP hD hS _ (lv_sub hl [1, 2, 3, 4, 0] rfl)
set_option maxHeartbeats 4000000 in
set_option maxRecDepth 100000 in
theorem t_Mo_in (l : Launch) (G : va_G) (cy : Nat → ClassId) (kz : Nat → Nat) (N0 : Nat) (p0 : Int32) (p1 : Int32) (p2 : Int32) (out : Int32) (h0 : f_Mo_in p0 p1 p2 = some out) (Bp : va_W → Prop) (hBp : Bp []) : CT l G cy kz N0 y_Mo_in b_Mo_in 3 (some .boolean) 0 0 0 [.int p0, .int p1, .int p2] [] (some (.int out)) Bp := by
  refine CT.of (by decide) (Nat.le_of_ble_eq_true rfl) ?_
  intro p e s m below meth c A ls hx hb hr hml hB hown hlocks hnm hE hN hA hNA hP hD hS hl
  have hown : s.vm.findClass "YieldDeskModel" = some m.cls := hown
  have hl : lv_has ls 3 [(0, .int p0), (1, .int p1), (2, .int p2)] := hl
  have hf := h0
  unfold f_Mo_in at hf
  refine lv_iload_n hx hb d_Mo_in_0 rfl (lv_at hl 0 rfl) ?_
  refine lv_iload_n hx hb d_Mo_in_1 rfl (lv_at hl 1 rfl) ?_
  refine lv_icmp_lt (tgt := 14) hx hb d_Mo_in_2 (by decide) (fun hc1 => ?_) (fun hc1 => ?_)
  · replace hf := iteP hc1 hf
    refine lv_iconst (v := (0 : Int32)) hx hb d_Mo_in_14 (by decide) ?_
    obtain rfl := Option.some.inj hf
    exact W.zret (v := (0 : Int32)) hx hb hr (show narrow .boolean (.int (0 : Int32)) = .int (0 : Int32) from rfl) (x_ret hP hD hS hBp) hS.2.2 d_Mo_in_15
  · replace hf := iteN hc1 hf
    refine lv_iload_n hx hb d_Mo_in_5 rfl (lv_at hl 0 rfl) ?_
    refine lv_iload_n hx hb d_Mo_in_6 rfl (lv_at hl 2 rfl) ?_
    refine lv_icmp_gt (tgt := 14) hx hb d_Mo_in_7 (by decide) (fun hc2 => ?_) (fun hc2 => ?_)
    · replace hf := iteP hc2 hf
      refine lv_iconst (v := (0 : Int32)) hx hb d_Mo_in_14 (by decide) ?_
      obtain rfl := Option.some.inj hf
      exact W.zret (v := (0 : Int32)) hx hb hr (show narrow .boolean (.int (0 : Int32)) = .int (0 : Int32) from rfl) (x_ret hP hD hS hBp) hS.2.2 d_Mo_in_15
    · replace hf := iteN hc2 hf
      refine lv_iconst (v := (1 : Int32)) hx hb d_Mo_in_10 (by decide) ?_
      refine lv_goto (tgt := 15) hx hb d_Mo_in_11 (by decide) ?_
      obtain rfl := Option.some.inj hf
      exact W.zret (v := (1 : Int32)) hx hb hr (show narrow .boolean (.int (1 : Int32)) = .int (1 : Int32) from rfl) (x_ret hP hD hS hBp) hS.2.2 d_Mo_in_15
