set_option maxHeartbeats 4000000 in
set_option maxRecDepth 100000 in
theorem t_Mo_keep (l : Launch) (G : va_G) (cy : Nat → ClassId) (kz : Nat → Nat) (N0 : Nat) (z : Nat) (z_deeds : Int32) (z_seen : Int32) (z_letters : Int32) (z_at : Int32) (z_tokenAt : Int32) (z_tokenSort : Int32) (z_tokenValue : Int32) (z_items : Int32) (z_toldItems : Int32) (z_fromAbove : Int64) (z_fromBelow : Int64) (z_toAbove : Int64) (z_toBelow : Int64) (z_now_a : Nat) (z_now : Nat → Int32) (z_read_a : Nat) (z_read : Nat → Int32) (z_past_a : Nat) (z_past : Nat → Int32) (z_images_a : Nat) (z_images : Nat → Int32) (z_isKept_a : Nat) (z_isKept : Nat → Int32) (z_seenAt_a : Nat) (z_seenAt : Nat → Int32) (z_seenVolume_a : Nat) (z_seenVolume : Nat → Int32) (z_text_a : Nat) (z_text : Nat → Int32) (z_firstAt_a : Nat) (z_firstAt : Nat → Int32) (z_failedBy_a : Nat) (z_failedBy : Nat → Int32) (z_volumes_a : Nat) (z_volumes : Nat → Int32) (z_fit_a : Nat) (z_fit : Nat → Int32) (p0 : Int32) (out : Int32 × (Nat → Int32) × (Nat → Int32)) (h0 : f_Mo_keep z_now z_images z_isKept p0 = some out) (Bp : va_W → Prop) (hBp : Bp [(z, .inr (8, [.ref z_now_a, .ref z_read_a, .ref z_past_a, .int z_deeds, .ref z_images_a, .ref z_isKept_a, .ref z_seenAt_a, .ref z_seenVolume_a, .int z_seen, .ref z_text_a, .int z_letters, .int z_at, .int z_tokenAt, .int z_tokenSort, .int z_tokenValue, .int z_items, .int z_toldItems, .long z_fromAbove, .long z_fromBelow, .long z_toAbove, .long z_toBelow, .ref z_firstAt_a, .ref z_failedBy_a, .ref z_volumes_a, .ref z_fit_a])), (z_now_a, .inl (cy 0, 30, .inl z_now)), (z_read_a, .inl (cy 0, 30, .inl z_read)), (z_past_a, .inl (cy 0, 180, .inl z_past)), (z_images_a, .inl (cy 0, 60, .inl out.2.1)), (z_isKept_a, .inl (cy 1, 2, .inl out.2.2)), (z_seenAt_a, .inl (cy 0, 6, .inl z_seenAt)), (z_seenVolume_a, .inl (cy 0, 6, .inl z_seenVolume)), (z_text_a, .inl (cy 0, 120, .inl z_text)), (z_firstAt_a, .inl (cy 0, 1000, .inl z_firstAt)), (z_failedBy_a, .inl (cy 0, 1000, .inl z_failedBy)), (z_volumes_a, .inl (cy 0, 4000, .inl z_volumes)), (z_fit_a, .inl (cy 1, 100, .inl z_fit))]) : CT l G cy kz N0 y_Mo_keep b_Mo_keep 2 (some .int) 1 0 0 [.ref z, .int p0] [(z, .inr (8, [.ref z_now_a, .ref z_read_a, .ref z_past_a, .int z_deeds, .ref z_images_a, .ref z_isKept_a, .ref z_seenAt_a, .ref z_seenVolume_a, .int z_seen, .ref z_text_a, .int z_letters, .int z_at, .int z_tokenAt, .int z_tokenSort, .int z_tokenValue, .int z_items, .int z_toldItems, .long z_fromAbove, .long z_fromBelow, .long z_toAbove, .long z_toBelow, .ref z_firstAt_a, .ref z_failedBy_a, .ref z_volumes_a, .ref z_fit_a])), (z_now_a, .inl (cy 0, 30, .inl z_now)), (z_read_a, .inl (cy 0, 30, .inl z_read)), (z_past_a, .inl (cy 0, 180, .inl z_past)), (z_images_a, .inl (cy 0, 60, .inl z_images)), (z_isKept_a, .inl (cy 1, 2, .inl z_isKept)), (z_seenAt_a, .inl (cy 0, 6, .inl z_seenAt)), (z_seenVolume_a, .inl (cy 0, 6, .inl z_seenVolume)), (z_text_a, .inl (cy 0, 120, .inl z_text)), (z_firstAt_a, .inl (cy 0, 1000, .inl z_firstAt)), (z_failedBy_a, .inl (cy 0, 1000, .inl z_failedBy)), (z_volumes_a, .inl (cy 0, 4000, .inl z_volumes)), (z_fit_a, .inl (cy 1, 100, .inl z_fit))] (some (.int out.1)) Bp := by
  refine CT.of (by decide) (Nat.le_of_ble_eq_true rfl) ?_
  intro p e s m below meth c A ls hx hb hr hml hB hown hlocks hnm hE hN hA hNA hP hD hS hl
  have hown : s.vm.findClass "YieldDeskModel" = some m.cls := hown
  have hl : lv_has ls 2 [(0, .ref z), (1, .int p0)] := hl
  have hf := h0
  unfold f_Mo_keep at hf
  refine lv_iload_n hx hb d_Mo_keep_0 rfl (lv_at hl 1 rfl) ?_
  refine lv_iconst (v := (0 : Int32)) hx hb d_Mo_keep_1 (by decide) ?_
  refine lv_iconst (v := (1 : Int32)) hx hb d_Mo_keep_2 (by decide) ?_
  obtain ⟨z1, hz1, hf⟩ := obn hf
  refine x_S0 (As := [.int p0, .int (0 : Int32), .int (1 : Int32)]) (rest := []) (t_Mo_in l G cy kz N0  p0 (0 : Int32) (1 : Int32) z1 hz1 (fun w => w = []) rfl) hx hb hml hown hB hE hN hNA m_719 m_720 m_9 m_721 hdS_Mo_in ⟨Nat.le_of_ble_eq_true rfl, Nat.le_of_ble_eq_true rfl, Nat.le_of_ble_eq_true rfl, Nat.le_of_ble_eq_true rfl⟩ hP hD hS hA hl.1 rfl (Nat.le_of_ble_eq_true rfl) d_Mo_keep_3 (fun H locs hP hD hS => ?_)
  refine lv_if_ne (tgt := 11) hx hb d_Mo_keep_6 (by decide) (fun hc2 => ?_) (fun hc2 => ?_)
  · replace hf := iteN hc2 hf
    refine lv_aload_n hx hb d_Mo_keep_11 rfl (lv_at hl 0 rfl) ?_
    refine va_get (D := G) (ci := 8) (v := .ref z_now_a) (C := "YieldDeskModel") (T := F_Mo) (N := 25) hx hb hB fi_Mo hown hE.1 hP 0 rfl rfl 0 (by decide) (hB _ m_638) (fun _ h9 => h9) rfl d_Mo_keep_12 ?_
    refine lv_iconst (v := (0 : Int32)) hx hb d_Mo_keep_15 (by decide) ?_
    refine lv_aload_n hx hb d_Mo_keep_16 rfl (lv_at hl 0 rfl) ?_
    refine va_get (D := G) (ci := 8) (v := .ref z_images_a) (C := "YieldDeskModel") (T := F_Mo) (N := 25) hx hb hB fi_Mo hown hE.1 hP 0 rfl rfl 4 (by decide) (hB _ m_642) (fun _ h9 => h9) rfl d_Mo_keep_17 ?_
    refine lv_bipush (v := (30 : Int32)) hx hb d_Mo_keep_20 (by decide) ?_
    refine lv_iload_n hx hb d_Mo_keep_22 rfl (lv_at hl 1 rfl) ?_
    refine lv_imul hx hb d_Mo_keep_23 ?_
    obtain ⟨z3, hz3, hf⟩ := obn hf
    refine x_S (As := [.ref z_now_a, .int (0 : Int32), .ref z_images_a, .int ((30 : Int32) * p0)]) (rest := []) (wc := [(z_now_a, .inl (cy 0, 30, .inl z_now)), (z_images_a, .inl (cy 0, 60, .inl z_images))]) (wr := [(z, .inr (8, [.ref z_now_a, .ref z_read_a, .ref z_past_a, .int z_deeds, .ref z_images_a, .ref z_isKept_a, .ref z_seenAt_a, .ref z_seenVolume_a, .int z_seen, .ref z_text_a, .int z_letters, .int z_at, .int z_tokenAt, .int z_tokenSort, .int z_tokenValue, .int z_items, .int z_toldItems, .long z_fromAbove, .long z_fromBelow, .long z_toAbove, .long z_toBelow, .ref z_firstAt_a, .ref z_failedBy_a, .ref z_volumes_a, .ref z_fit_a])), (z_read_a, .inl (cy 0, 30, .inl z_read)), (z_past_a, .inl (cy 0, 180, .inl z_past)), (z_isKept_a, .inl (cy 1, 2, .inl z_isKept)), (z_seenAt_a, .inl (cy 0, 6, .inl z_seenAt)), (z_seenVolume_a, .inl (cy 0, 6, .inl z_seenVolume)), (z_text_a, .inl (cy 0, 120, .inl z_text)), (z_firstAt_a, .inl (cy 0, 1000, .inl z_firstAt)), (z_failedBy_a, .inl (cy 0, 1000, .inl z_failedBy)), (z_volumes_a, .inl (cy 0, 4000, .inl z_volumes)), (z_fit_a, .inl (cy 1, 100, .inl z_fit))]) (t_Mo_bring l G cy kz N0  z_now_a 30 z_now (0 : Int32) z_images_a 60 z_images ((30 : Int32) * p0) z3 hz3 (fun w => w = [(z_now_a, .inl (cy 0, 30, .inl z_now)), (z_images_a, .inl (cy 0, 60, .inl z3))]) rfl) hx hb hml hown hB hE hN hNA m_635 m_636 m_9 m_637 hdS_Mo_bring ⟨Nat.le_of_ble_eq_true rfl, Nat.le_of_ble_eq_true rfl, Nat.le_of_ble_eq_true rfl, Nat.le_of_ble_eq_true rfl⟩ hP hD hS hA [1, 4] [0, 2, 3, 5, 6, 7, 8, 9, 10, 11, 12] rfl rfl (by decide) (by decide) hl.1 rfl (Nat.le_of_ble_eq_true rfl) d_Mo_keep_24 (fun _ H locs hw hP hD hS => ?_)
    subst hw
    replace hP : va_P G classes [(z, .inr (8, [.ref z_now_a, .ref z_read_a, .ref z_past_a, .int z_deeds, .ref z_images_a, .ref z_isKept_a, .ref z_seenAt_a, .ref z_seenVolume_a, .int z_seen, .ref z_text_a, .int z_letters, .int z_at, .int z_tokenAt, .int z_tokenSort, .int z_tokenValue, .int z_items, .int z_toldItems, .long z_fromAbove, .long z_fromBelow, .long z_toAbove, .long z_toBelow, .ref z_firstAt_a, .ref z_failedBy_a, .ref z_volumes_a, .ref z_fit_a])), (z_now_a, .inl (cy 0, 30, .inl z_now)), (z_read_a, .inl (cy 0, 30, .inl z_read)), (z_past_a, .inl (cy 0, 180, .inl z_past)), (z_images_a, .inl (cy 0, 60, .inl z3)), (z_isKept_a, .inl (cy 1, 2, .inl z_isKept)), (z_seenAt_a, .inl (cy 0, 6, .inl z_seenAt)), (z_seenVolume_a, .inl (cy 0, 6, .inl z_seenVolume)), (z_text_a, .inl (cy 0, 120, .inl z_text)), (z_firstAt_a, .inl (cy 0, 1000, .inl z_firstAt)), (z_failedBy_a, .inl (cy 0, 1000, .inl z_failedBy)), (z_volumes_a, .inl (cy 0, 4000, .inl z_volumes)), (z_fit_a, .inl (cy 1, 100, .inl z_fit))] H := hP.sub [0, 11, 1, 2, 12, 3, 4, 5, 6, 7, 8, 9, 10] rfl
    replace hD : va_D A [(z, .inr (8, [.ref z_now_a, .ref z_read_a, .ref z_past_a, .int z_deeds, .ref z_images_a, .ref z_isKept_a, .ref z_seenAt_a, .ref z_seenVolume_a, .int z_seen, .ref z_text_a, .int z_letters, .int z_at, .int z_tokenAt, .int z_tokenSort, .int z_tokenValue, .int z_items, .int z_toldItems, .long z_fromAbove, .long z_fromBelow, .long z_toAbove, .long z_toBelow, .ref z_firstAt_a, .ref z_failedBy_a, .ref z_volumes_a, .ref z_fit_a])), (z_now_a, .inl (cy 0, 30, .inl z_now)), (z_read_a, .inl (cy 0, 30, .inl z_read)), (z_past_a, .inl (cy 0, 180, .inl z_past)), (z_images_a, .inl (cy 0, 60, .inl z3)), (z_isKept_a, .inl (cy 1, 2, .inl z_isKept)), (z_seenAt_a, .inl (cy 0, 6, .inl z_seenAt)), (z_seenVolume_a, .inl (cy 0, 6, .inl z_seenVolume)), (z_text_a, .inl (cy 0, 120, .inl z_text)), (z_firstAt_a, .inl (cy 0, 1000, .inl z_firstAt)), (z_failedBy_a, .inl (cy 0, 1000, .inl z_failedBy)), (z_volumes_a, .inl (cy 0, 4000, .inl z_volumes)), (z_fit_a, .inl (cy 1, 100, .inl z_fit))] := hD.sub [0, 11, 1, 2, 12, 3, 4, 5, 6, 7, 8, 9, 10] (by decide) rfl
    refine lv_aload_n hx hb d_Mo_keep_27 rfl (lv_at hl 0 rfl) ?_
    refine va_get (D := G) (ci := 8) (v := .ref z_isKept_a) (C := "YieldDeskModel") (T := F_Mo) (N := 25) hx hb hB fi_Mo hown hE.1 hP 0 rfl rfl 5 (by decide) (hB _ m_643) (fun _ h9 => h9) rfl d_Mo_keep_28 ?_
    refine lv_iload_n hx hb d_Mo_keep_31 rfl (lv_at hl 1 rfl) ?_
    refine lv_iconst (v := (1 : Int32)) hx hb d_Mo_keep_32 (by decide) ?_
    obtain ⟨hg4, hf⟩ := gdn hf
    refine va_zast hx hb hE.1 hP hD hS 5 1 rfl rfl hg4 d_Mo_keep_33 (fun H locs hP hD hS => ?_)
    have hP : va_P G classes [(z, .inr (8, [.ref z_now_a, .ref z_read_a, .ref z_past_a, .int z_deeds, .ref z_images_a, .ref z_isKept_a, .ref z_seenAt_a, .ref z_seenVolume_a, .int z_seen, .ref z_text_a, .int z_letters, .int z_at, .int z_tokenAt, .int z_tokenSort, .int z_tokenValue, .int z_items, .int z_toldItems, .long z_fromAbove, .long z_fromBelow, .long z_toAbove, .long z_toBelow, .ref z_firstAt_a, .ref z_failedBy_a, .ref z_volumes_a, .ref z_fit_a])), (z_now_a, .inl (cy 0, 30, .inl z_now)), (z_read_a, .inl (cy 0, 30, .inl z_read)), (z_past_a, .inl (cy 0, 180, .inl z_past)), (z_images_a, .inl (cy 0, 60, .inl z3)), (z_isKept_a, .inl (cy 1, 2, .inl (upd z_isKept p0.toNatClampNeg (vp_nar .boolean (1 : Int32))))), (z_seenAt_a, .inl (cy 0, 6, .inl z_seenAt)), (z_seenVolume_a, .inl (cy 0, 6, .inl z_seenVolume)), (z_text_a, .inl (cy 0, 120, .inl z_text)), (z_firstAt_a, .inl (cy 0, 1000, .inl z_firstAt)), (z_failedBy_a, .inl (cy 0, 1000, .inl z_failedBy)), (z_volumes_a, .inl (cy 0, 4000, .inl z_volumes)), (z_fit_a, .inl (cy 1, 100, .inl z_fit))] H := hP
    have hD : va_D A [(z, .inr (8, [.ref z_now_a, .ref z_read_a, .ref z_past_a, .int z_deeds, .ref z_images_a, .ref z_isKept_a, .ref z_seenAt_a, .ref z_seenVolume_a, .int z_seen, .ref z_text_a, .int z_letters, .int z_at, .int z_tokenAt, .int z_tokenSort, .int z_tokenValue, .int z_items, .int z_toldItems, .long z_fromAbove, .long z_fromBelow, .long z_toAbove, .long z_toBelow, .ref z_firstAt_a, .ref z_failedBy_a, .ref z_volumes_a, .ref z_fit_a])), (z_now_a, .inl (cy 0, 30, .inl z_now)), (z_read_a, .inl (cy 0, 30, .inl z_read)), (z_past_a, .inl (cy 0, 180, .inl z_past)), (z_images_a, .inl (cy 0, 60, .inl z3)), (z_isKept_a, .inl (cy 1, 2, .inl (upd z_isKept p0.toNatClampNeg (vp_nar .boolean (1 : Int32))))), (z_seenAt_a, .inl (cy 0, 6, .inl z_seenAt)), (z_seenVolume_a, .inl (cy 0, 6, .inl z_seenVolume)), (z_text_a, .inl (cy 0, 120, .inl z_text)), (z_firstAt_a, .inl (cy 0, 1000, .inl z_firstAt)), (z_failedBy_a, .inl (cy 0, 1000, .inl z_failedBy)), (z_volumes_a, .inl (cy 0, 4000, .inl z_volumes)), (z_fit_a, .inl (cy 1, 100, .inl z_fit))] := hD
    refine lv_aload_n hx hb d_Mo_keep_34 rfl (lv_at hl 0 rfl) ?_
    refine va_get (D := G) (ci := 8) (v := .ref z_now_a) (C := "YieldDeskModel") (T := F_Mo) (N := 25) hx hb hB fi_Mo hown hE.1 hP 0 rfl rfl 0 (by decide) (hB _ m_638) (fun _ h9 => h9) rfl d_Mo_keep_35 ?_
    refine lv_bipush (v := (25 : Int32)) hx hb d_Mo_keep_38 (by decide) ?_
    obtain ⟨hg5, hf⟩ := gdn hf
    refine va_iald hx hb hE.1 hP 1 0 rfl rfl hg5 d_Mo_keep_40 ?_
    obtain rfl := Option.some.inj hf
    exact W.iret hx hb hr (x_ret hP hD hS hBp) hS.2.2 d_Mo_keep_41
  · replace hf := iteP hc2 hf
    refine lv_iconst (v := (-1 : Int32)) hx hb d_Mo_keep_9 (by decide) ?_
    obtain rfl := Option.some.inj hf
    exact W.iret hx hb hr (x_ret hP hD hS hBp) hS.2.2 d_Mo_keep_10
set_option maxHeartbeats 4000000 in
set_option maxRecDepth 100000 in
theorem t_Mo_back (l : Launch) (G : va_G) (cy : Nat → ClassId) (kz : Nat → Nat) (N0 : Nat) (z : Nat) (z_deeds : Int32) (z_seen : Int32) (z_letters : Int32) (z_at : Int32) (z_tokenAt : Int32) (z_tokenSort : Int32) (z_tokenValue : Int32) (z_items : Int32) (z_toldItems : Int32) (z_fromAbove : Int64) (z_fromBelow : Int64) (z_toAbove : Int64) (z_toBelow : Int64) (z_now_a : Nat) (z_now : Nat → Int32) (z_read_a : Nat) (z_read : Nat → Int32) (z_past_a : Nat) (z_past : Nat → Int32) (z_images_a : Nat) (z_images : Nat → Int32) (z_isKept_a : Nat) (z_isKept : Nat → Int32) (z_seenAt_a : Nat) (z_seenAt : Nat → Int32) (z_seenVolume_a : Nat) (z_seenVolume : Nat → Int32) (z_text_a : Nat) (z_text : Nat → Int32) (z_firstAt_a : Nat) (z_firstAt : Nat → Int32) (z_failedBy_a : Nat) (z_failedBy : Nat → Int32) (z_volumes_a : Nat) (z_volumes : Nat → Int32) (z_fit_a : Nat) (z_fit : Nat → Int32) (p0 : Int32) (out : Int32 × Int32 × (Nat → Int32)) (h0 : f_Mo_back z_deeds z_now z_images z_isKept p0 = some out) (Bp : va_W → Prop) (hBp : Bp [(z, .inr (8, [.ref z_now_a, .ref z_read_a, .ref z_past_a, .int out.2.1, .ref z_images_a, .ref z_isKept_a, .ref z_seenAt_a, .ref z_seenVolume_a, .int z_seen, .ref z_text_a, .int z_letters, .int z_at, .int z_tokenAt, .int z_tokenSort, .int z_tokenValue, .int z_items, .int z_toldItems, .long z_fromAbove, .long z_fromBelow, .long z_toAbove, .long z_toBelow, .ref z_firstAt_a, .ref z_failedBy_a, .ref z_volumes_a, .ref z_fit_a])), (z_now_a, .inl (cy 0, 30, .inl out.2.2)), (z_read_a, .inl (cy 0, 30, .inl z_read)), (z_past_a, .inl (cy 0, 180, .inl z_past)), (z_images_a, .inl (cy 0, 60, .inl z_images)), (z_isKept_a, .inl (cy 1, 2, .inl z_isKept)), (z_seenAt_a, .inl (cy 0, 6, .inl z_seenAt)), (z_seenVolume_a, .inl (cy 0, 6, .inl z_seenVolume)), (z_text_a, .inl (cy 0, 120, .inl z_text)), (z_firstAt_a, .inl (cy 0, 1000, .inl z_firstAt)), (z_failedBy_a, .inl (cy 0, 1000, .inl z_failedBy)), (z_volumes_a, .inl (cy 0, 4000, .inl z_volumes)), (z_fit_a, .inl (cy 1, 100, .inl z_fit))]) : CT l G cy kz N0 y_Mo_back b_Mo_back 2 (some .int) 1 0 0 [.ref z, .int p0] [(z, .inr (8, [.ref z_now_a, .ref z_read_a, .ref z_past_a, .int z_deeds, .ref z_images_a, .ref z_isKept_a, .ref z_seenAt_a, .ref z_seenVolume_a, .int z_seen, .ref z_text_a, .int z_letters, .int z_at, .int z_tokenAt, .int z_tokenSort, .int z_tokenValue, .int z_items, .int z_toldItems, .long z_fromAbove, .long z_fromBelow, .long z_toAbove, .long z_toBelow, .ref z_firstAt_a, .ref z_failedBy_a, .ref z_volumes_a, .ref z_fit_a])), (z_now_a, .inl (cy 0, 30, .inl z_now)), (z_read_a, .inl (cy 0, 30, .inl z_read)), (z_past_a, .inl (cy 0, 180, .inl z_past)), (z_images_a, .inl (cy 0, 60, .inl z_images)), (z_isKept_a, .inl (cy 1, 2, .inl z_isKept)), (z_seenAt_a, .inl (cy 0, 6, .inl z_seenAt)), (z_seenVolume_a, .inl (cy 0, 6, .inl z_seenVolume)), (z_text_a, .inl (cy 0, 120, .inl z_text)), (z_firstAt_a, .inl (cy 0, 1000, .inl z_firstAt)), (z_failedBy_a, .inl (cy 0, 1000, .inl z_failedBy)), (z_volumes_a, .inl (cy 0, 4000, .inl z_volumes)), (z_fit_a, .inl (cy 1, 100, .inl z_fit))] (some (.int out.1)) Bp := by
  refine CT.of (by decide) (Nat.le_of_ble_eq_true rfl) ?_
  intro p e s m below meth c A ls hx hb hr hml hB hown hlocks hnm hE hN hA hNA hP hD hS hl
  have hown : s.vm.findClass "YieldDeskModel" = some m.cls := hown
  have hl : lv_has ls 2 [(0, .ref z), (1, .int p0)] := hl
  have hf := h0
  unfold f_Mo_back at hf
  refine lv_iload_n hx hb d_Mo_back_0 rfl (lv_at hl 1 rfl) ?_
  refine lv_iconst (v := (0 : Int32)) hx hb d_Mo_back_1 (by decide) ?_
  refine lv_iconst (v := (1 : Int32)) hx hb d_Mo_back_2 (by decide) ?_
  obtain ⟨z1, hz1, hf⟩ := obn hf
  refine x_S0 (As := [.int p0, .int (0 : Int32), .int (1 : Int32)]) (rest := []) (t_Mo_in l G cy kz N0  p0 (0 : Int32) (1 : Int32) z1 hz1 (fun w => w = []) rfl) hx hb hml hown hB hE hN hNA m_719 m_720 m_9 m_721 hdS_Mo_in ⟨Nat.le_of_ble_eq_true rfl, Nat.le_of_ble_eq_true rfl, Nat.le_of_ble_eq_true rfl, Nat.le_of_ble_eq_true rfl⟩ hP hD hS hA hl.1 rfl (Nat.le_of_ble_eq_true rfl) d_Mo_back_3 (fun H locs hP hD hS => ?_)
  refine lv_if_ne (tgt := 11) hx hb d_Mo_back_6 (by decide) (fun hc2 => ?_) (fun hc2 => ?_)
  · replace hf := iteN hc2 hf
    refine lv_aload_n hx hb d_Mo_back_11 rfl (lv_at hl 0 rfl) ?_
    refine va_get (D := G) (ci := 8) (v := .ref z_isKept_a) (C := "YieldDeskModel") (T := F_Mo) (N := 25) hx hb hB fi_Mo hown hE.1 hP 0 rfl rfl 5 (by decide) (hB _ m_643) (fun _ h9 => h9) rfl d_Mo_back_12 ?_
    refine lv_iload_n hx hb d_Mo_back_15 rfl (lv_at hl 1 rfl) ?_
    obtain ⟨hg3, hf⟩ := gdn hf
    refine va_zald hx hb hE.1 hP 5 1 rfl rfl hg3 d_Mo_back_16 ?_
    refine lv_if_ne (tgt := 23) hx hb d_Mo_back_17 (by decide) (fun hc4 => ?_) (fun hc4 => ?_)
    · replace hf := iteN hc4 hf
      refine lv_aload_n hx hb d_Mo_back_23 rfl (lv_at hl 0 rfl) ?_
      refine va_get (D := G) (ci := 8) (v := .ref z_images_a) (C := "YieldDeskModel") (T := F_Mo) (N := 25) hx hb hB fi_Mo hown hE.1 hP 0 rfl rfl 4 (by decide) (hB _ m_642) (fun _ h9 => h9) rfl d_Mo_back_24 ?_
      refine lv_bipush (v := (30 : Int32)) hx hb d_Mo_back_27 (by decide) ?_
      refine lv_iload_n hx hb d_Mo_back_29 rfl (lv_at hl 1 rfl) ?_
      refine lv_imul hx hb d_Mo_back_30 ?_
      refine lv_aload_n hx hb d_Mo_back_31 rfl (lv_at hl 0 rfl) ?_
      refine va_get (D := G) (ci := 8) (v := .ref z_now_a) (C := "YieldDeskModel") (T := F_Mo) (N := 25) hx hb hB fi_Mo hown hE.1 hP 0 rfl rfl 0 (by decide) (hB _ m_638) (fun _ h9 => h9) rfl d_Mo_back_32 ?_
      refine lv_iconst (v := (0 : Int32)) hx hb d_Mo_back_35 (by decide) ?_
      obtain ⟨z5, hz5, hf⟩ := obn hf
      refine x_S (As := [.ref z_images_a, .int ((30 : Int32) * p0), .ref z_now_a, .int (0 : Int32)]) (rest := []) (wc := [(z_images_a, .inl (cy 0, 60, .inl z_images)), (z_now_a, .inl (cy 0, 30, .inl z_now))]) (wr := [(z, .inr (8, [.ref z_now_a, .ref z_read_a, .ref z_past_a, .int z_deeds, .ref z_images_a, .ref z_isKept_a, .ref z_seenAt_a, .ref z_seenVolume_a, .int z_seen, .ref z_text_a, .int z_letters, .int z_at, .int z_tokenAt, .int z_tokenSort, .int z_tokenValue, .int z_items, .int z_toldItems, .long z_fromAbove, .long z_fromBelow, .long z_toAbove, .long z_toBelow, .ref z_firstAt_a, .ref z_failedBy_a, .ref z_volumes_a, .ref z_fit_a])), (z_read_a, .inl (cy 0, 30, .inl z_read)), (z_past_a, .inl (cy 0, 180, .inl z_past)), (z_isKept_a, .inl (cy 1, 2, .inl z_isKept)), (z_seenAt_a, .inl (cy 0, 6, .inl z_seenAt)), (z_seenVolume_a, .inl (cy 0, 6, .inl z_seenVolume)), (z_text_a, .inl (cy 0, 120, .inl z_text)), (z_firstAt_a, .inl (cy 0, 1000, .inl z_firstAt)), (z_failedBy_a, .inl (cy 0, 1000, .inl z_failedBy)), (z_volumes_a, .inl (cy 0, 4000, .inl z_volumes)), (z_fit_a, .inl (cy 1, 100, .inl z_fit))]) (t_Mo_bring l G cy kz N0  z_images_a 60 z_images ((30 : Int32) * p0) z_now_a 30 z_now (0 : Int32) z5 hz5 (fun w => w = [(z_images_a, .inl (cy 0, 60, .inl z_images)), (z_now_a, .inl (cy 0, 30, .inl z5))]) rfl) hx hb hml hown hB hE hN hNA m_635 m_636 m_9 m_637 hdS_Mo_bring ⟨Nat.le_of_ble_eq_true rfl, Nat.le_of_ble_eq_true rfl, Nat.le_of_ble_eq_true rfl, Nat.le_of_ble_eq_true rfl⟩ hP hD hS hA [4, 1] [0, 2, 3, 5, 6, 7, 8, 9, 10, 11, 12] rfl rfl (by decide) (by decide) hl.1 rfl (Nat.le_of_ble_eq_true rfl) d_Mo_back_36 (fun _ H locs hw hP hD hS => ?_)
      subst hw
      replace hP : va_P G classes [(z, .inr (8, [.ref z_now_a, .ref z_read_a, .ref z_past_a, .int z_deeds, .ref z_images_a, .ref z_isKept_a, .ref z_seenAt_a, .ref z_seenVolume_a, .int z_seen, .ref z_text_a, .int z_letters, .int z_at, .int z_tokenAt, .int z_tokenSort, .int z_tokenValue, .int z_items, .int z_toldItems, .long z_fromAbove, .long z_fromBelow, .long z_toAbove, .long z_toBelow, .ref z_firstAt_a, .ref z_failedBy_a, .ref z_volumes_a, .ref z_fit_a])), (z_now_a, .inl (cy 0, 30, .inl z5)), (z_read_a, .inl (cy 0, 30, .inl z_read)), (z_past_a, .inl (cy 0, 180, .inl z_past)), (z_images_a, .inl (cy 0, 60, .inl z_images)), (z_isKept_a, .inl (cy 1, 2, .inl z_isKept)), (z_seenAt_a, .inl (cy 0, 6, .inl z_seenAt)), (z_seenVolume_a, .inl (cy 0, 6, .inl z_seenVolume)), (z_text_a, .inl (cy 0, 120, .inl z_text)), (z_firstAt_a, .inl (cy 0, 1000, .inl z_firstAt)), (z_failedBy_a, .inl (cy 0, 1000, .inl z_failedBy)), (z_volumes_a, .inl (cy 0, 4000, .inl z_volumes)), (z_fit_a, .inl (cy 1, 100, .inl z_fit))] H := hP.sub [0, 12, 1, 2, 11, 3, 4, 5, 6, 7, 8, 9, 10] rfl
      replace hD : va_D A [(z, .inr (8, [.ref z_now_a, .ref z_read_a, .ref z_past_a, .int z_deeds, .ref z_images_a, .ref z_isKept_a, .ref z_seenAt_a, .ref z_seenVolume_a, .int z_seen, .ref z_text_a, .int z_letters, .int z_at, .int z_tokenAt, .int z_tokenSort, .int z_tokenValue, .int z_items, .int z_toldItems, .long z_fromAbove, .long z_fromBelow, .long z_toAbove, .long z_toBelow, .ref z_firstAt_a, .ref z_failedBy_a, .ref z_volumes_a, .ref z_fit_a])), (z_now_a, .inl (cy 0, 30, .inl z5)), (z_read_a, .inl (cy 0, 30, .inl z_read)), (z_past_a, .inl (cy 0, 180, .inl z_past)), (z_images_a, .inl (cy 0, 60, .inl z_images)), (z_isKept_a, .inl (cy 1, 2, .inl z_isKept)), (z_seenAt_a, .inl (cy 0, 6, .inl z_seenAt)), (z_seenVolume_a, .inl (cy 0, 6, .inl z_seenVolume)), (z_text_a, .inl (cy 0, 120, .inl z_text)), (z_firstAt_a, .inl (cy 0, 1000, .inl z_firstAt)), (z_failedBy_a, .inl (cy 0, 1000, .inl z_failedBy)), (z_volumes_a, .inl (cy 0, 4000, .inl z_volumes)), (z_fit_a, .inl (cy 1, 100, .inl z_fit))] := hD.sub [0, 12, 1, 2, 11, 3, 4, 5, 6, 7, 8, 9, 10] (by decide) rfl
      refine lv_aload_n hx hb d_Mo_back_39 rfl (lv_at hl 0 rfl) ?_
      refine lv_iconst (v := (0 : Int32)) hx hb d_Mo_back_40 (by decide) ?_
      refine va_put (D := G) (ci := 8) (v := .int (0 : Int32)) (ty := .int) (C := "YieldDeskModel") (T := F_Mo) (N := 25) hx hb hB fi_Mo ft_Mo fo_Mo fn_Mo hown hE.1 hP hD hS 0 rfl rfl 3 (by decide) (hB _ m_641) (fun _ h9 => h9) rfl (by decide +kernel) rfl rfl (Nat.le_of_ble_eq_true rfl) d_Mo_back_41 (fun H locs hP hD hS => ?_)
      have hP : va_P G classes [(z, .inr (8, [.ref z_now_a, .ref z_read_a, .ref z_past_a, .int (0 : Int32), .ref z_images_a, .ref z_isKept_a, .ref z_seenAt_a, .ref z_seenVolume_a, .int z_seen, .ref z_text_a, .int z_letters, .int z_at, .int z_tokenAt, .int z_tokenSort, .int z_tokenValue, .int z_items, .int z_toldItems, .long z_fromAbove, .long z_fromBelow, .long z_toAbove, .long z_toBelow, .ref z_firstAt_a, .ref z_failedBy_a, .ref z_volumes_a, .ref z_fit_a])), (z_now_a, .inl (cy 0, 30, .inl z5)), (z_read_a, .inl (cy 0, 30, .inl z_read)), (z_past_a, .inl (cy 0, 180, .inl z_past)), (z_images_a, .inl (cy 0, 60, .inl z_images)), (z_isKept_a, .inl (cy 1, 2, .inl z_isKept)), (z_seenAt_a, .inl (cy 0, 6, .inl z_seenAt)), (z_seenVolume_a, .inl (cy 0, 6, .inl z_seenVolume)), (z_text_a, .inl (cy 0, 120, .inl z_text)), (z_firstAt_a, .inl (cy 0, 1000, .inl z_firstAt)), (z_failedBy_a, .inl (cy 0, 1000, .inl z_failedBy)), (z_volumes_a, .inl (cy 0, 4000, .inl z_volumes)), (z_fit_a, .inl (cy 1, 100, .inl z_fit))] H := hP
      have hD : va_D A [(z, .inr (8, [.ref z_now_a, .ref z_read_a, .ref z_past_a, .int (0 : Int32), .ref z_images_a, .ref z_isKept_a, .ref z_seenAt_a, .ref z_seenVolume_a, .int z_seen, .ref z_text_a, .int z_letters, .int z_at, .int z_tokenAt, .int z_tokenSort, .int z_tokenValue, .int z_items, .int z_toldItems, .long z_fromAbove, .long z_fromBelow, .long z_toAbove, .long z_toBelow, .ref z_firstAt_a, .ref z_failedBy_a, .ref z_volumes_a, .ref z_fit_a])), (z_now_a, .inl (cy 0, 30, .inl z5)), (z_read_a, .inl (cy 0, 30, .inl z_read)), (z_past_a, .inl (cy 0, 180, .inl z_past)), (z_images_a, .inl (cy 0, 60, .inl z_images)), (z_isKept_a, .inl (cy 1, 2, .inl z_isKept)), (z_seenAt_a, .inl (cy 0, 6, .inl z_seenAt)), (z_seenVolume_a, .inl (cy 0, 6, .inl z_seenVolume)), (z_text_a, .inl (cy 0, 120, .inl z_text)), (z_firstAt_a, .inl (cy 0, 1000, .inl z_firstAt)), (z_failedBy_a, .inl (cy 0, 1000, .inl z_failedBy)), (z_volumes_a, .inl (cy 0, 4000, .inl z_volumes)), (z_fit_a, .inl (cy 1, 100, .inl z_fit))] := hD
      refine lv_aload_n hx hb d_Mo_back_44 rfl (lv_at hl 0 rfl) ?_
      refine va_get (D := G) (ci := 8) (v := .ref z_now_a) (C := "YieldDeskModel") (T := F_Mo) (N := 25) hx hb hB fi_Mo hown hE.1 hP 0 rfl rfl 0 (by decide) (hB _ m_638) (fun _ h9 => h9) rfl d_Mo_back_45 ?_
      refine lv_bipush (v := (25 : Int32)) hx hb d_Mo_back_48 (by decide) ?_
      obtain ⟨hg6, hf⟩ := gdn hf
      refine va_iald hx hb hE.1 hP 1 0 rfl rfl hg6 d_Mo_back_50 ?_
      obtain rfl := Option.some.inj hf
      exact W.iret hx hb hr (x_ret hP hD hS hBp) hS.2.2 d_Mo_back_51
    · replace hf := iteP hc4 hf
      refine lv_bipush (v := (-2 : Int32)) hx hb d_Mo_back_20 (by decide) ?_
      obtain rfl := Option.some.inj hf
      exact W.iret hx hb hr (x_ret hP hD hS hBp) hS.2.2 d_Mo_back_22
  · replace hf := iteP hc2 hf
    refine lv_iconst (v := (-1 : Int32)) hx hb d_Mo_back_9 (by decide) ?_
    obtain rfl := Option.some.inj hf
    exact W.iret hx hb hr (x_ret hP hD hS hBp) hS.2.2 d_Mo_back_10
set_option maxHeartbeats 4000000 in
set_option maxRecDepth 100000 in
theorem t_Mo_count (l : Launch) (G : va_G) (cy : Nat → ClassId) (kz : Nat → Nat) (N0 : Nat) (z : Nat) (z_deeds : Int32) (z_seen : Int32) (z_letters : Int32) (z_at : Int32) (z_tokenAt : Int32) (z_tokenSort : Int32) (z_tokenValue : Int32) (z_items : Int32) (z_toldItems : Int32) (z_fromAbove : Int64) (z_fromBelow : Int64) (z_toAbove : Int64) (z_toBelow : Int64) (z_now_a : Nat) (z_now : Nat → Int32) (z_read_a : Nat) (z_read : Nat → Int32) (z_past_a : Nat) (z_past : Nat → Int32) (z_images_a : Nat) (z_images : Nat → Int32) (z_isKept_a : Nat) (z_isKept : Nat → Int32) (z_seenAt_a : Nat) (z_seenAt : Nat → Int32) (z_seenVolume_a : Nat) (z_seenVolume : Nat → Int32) (z_text_a : Nat) (z_text : Nat → Int32) (z_firstAt_a : Nat) (z_firstAt : Nat → Int32) (z_failedBy_a : Nat) (z_failedBy : Nat → Int32) (z_volumes_a : Nat) (z_volumes : Nat → Int32) (z_fit_a : Nat) (z_fit : Nat → Int32) (p0 : Int32) (out : Int32) (h0 : f_Mo_count z_deeds z_seen z_letters z_now p0 = some out) (Bp : va_W → Prop) (hBp : Bp [(z, .inr (8, [.ref z_now_a, .ref z_read_a, .ref z_past_a, .int z_deeds, .ref z_images_a, .ref z_isKept_a, .ref z_seenAt_a, .ref z_seenVolume_a, .int z_seen, .ref z_text_a, .int z_letters, .int z_at, .int z_tokenAt, .int z_tokenSort, .int z_tokenValue, .int z_items, .int z_toldItems, .long z_fromAbove, .long z_fromBelow, .long z_toAbove, .long z_toBelow, .ref z_firstAt_a, .ref z_failedBy_a, .ref z_volumes_a, .ref z_fit_a])), (z_now_a, .inl (cy 0, 30, .inl z_now)), (z_read_a, .inl (cy 0, 30, .inl z_read)), (z_past_a, .inl (cy 0, 180, .inl z_past)), (z_images_a, .inl (cy 0, 60, .inl z_images)), (z_isKept_a, .inl (cy 1, 2, .inl z_isKept)), (z_seenAt_a, .inl (cy 0, 6, .inl z_seenAt)), (z_seenVolume_a, .inl (cy 0, 6, .inl z_seenVolume)), (z_text_a, .inl (cy 0, 120, .inl z_text)), (z_firstAt_a, .inl (cy 0, 1000, .inl z_firstAt)), (z_failedBy_a, .inl (cy 0, 1000, .inl z_failedBy)), (z_volumes_a, .inl (cy 0, 4000, .inl z_volumes)), (z_fit_a, .inl (cy 1, 100, .inl z_fit))]) : CT l G cy kz N0 y_Mo_count b_Mo_count 2 (some .int) 1 0 0 [.ref z, .int p0] [(z, .inr (8, [.ref z_now_a, .ref z_read_a, .ref z_past_a, .int z_deeds, .ref z_images_a, .ref z_isKept_a, .ref z_seenAt_a, .ref z_seenVolume_a, .int z_seen, .ref z_text_a, .int z_letters, .int z_at, .int z_tokenAt, .int z_tokenSort, .int z_tokenValue, .int z_items, .int z_toldItems, .long z_fromAbove, .long z_fromBelow, .long z_toAbove, .long z_toBelow, .ref z_firstAt_a, .ref z_failedBy_a, .ref z_volumes_a, .ref z_fit_a])), (z_now_a, .inl (cy 0, 30, .inl z_now)), (z_read_a, .inl (cy 0, 30, .inl z_read)), (z_past_a, .inl (cy 0, 180, .inl z_past)), (z_images_a, .inl (cy 0, 60, .inl z_images)), (z_isKept_a, .inl (cy 1, 2, .inl z_isKept)), (z_seenAt_a, .inl (cy 0, 6, .inl z_seenAt)), (z_seenVolume_a, .inl (cy 0, 6, .inl z_seenVolume)), (z_text_a, .inl (cy 0, 120, .inl z_text)), (z_firstAt_a, .inl (cy 0, 1000, .inl z_firstAt)), (z_failedBy_a, .inl (cy 0, 1000, .inl z_failedBy)), (z_volumes_a, .inl (cy 0, 4000, .inl z_volumes)), (z_fit_a, .inl (cy 1, 100, .inl z_fit))] (some (.int out)) Bp := by
  refine CT.of (by decide) (Nat.le_of_ble_eq_true rfl) ?_
  intro p e s m below meth c A ls hx hb hr hml hB hown hlocks hnm hE hN hA hNA hP hD hS hl
  have hown : s.vm.findClass "YieldDeskModel" = some m.cls := hown
  have hl : lv_has ls 2 [(0, .ref z), (1, .int p0)] := hl
  have hf := h0
  unfold f_Mo_count at hf
  refine lv_iload_n hx hb d_Mo_count_0 rfl (lv_at hl 1 rfl) ?_
  by_cases hc1 : p0 = (0 : Int32)
  · replace hf := iteP hc1 hf
    refine lv_tableIn (off := 63) (tgt := 64) hx hb d_Mo_count_1 (by rw [hc1]; decide) (by rw [hc1]; decide) (by rw [hc1]; rfl) (by decide) ?_
    refine lv_aload_n hx hb d_Mo_count_64 rfl (lv_at hl 0 rfl) ?_
    refine va_get (D := G) (ci := 8) (v := .ref z_now_a) (C := "YieldDeskModel") (T := F_Mo) (N := 25) hx hb hB fi_Mo hown hE.1 hP 0 rfl rfl 0 (by decide) (hB _ m_638) (fun _ h9 => h9) rfl d_Mo_count_65 ?_
    refine lv_iconst (v := (0 : Int32)) hx hb d_Mo_count_68 (by decide) ?_
    obtain ⟨hg2, hf⟩ := gdn hf
    refine va_iald hx hb hE.1 hP 1 0 rfl rfl hg2 d_Mo_count_69 ?_
    obtain rfl := Option.some.inj hf
    exact W.iret hx hb hr (x_ret hP hD hS hBp) hS.2.2 d_Mo_count_70
  replace hf := iteN hc1 hf
  by_cases hc3 : p0 = (1 : Int32)
  · replace hf := iteP hc3 hf
    refine lv_tableIn (off := 70) (tgt := 71) hx hb d_Mo_count_1 (by rw [hc3]; decide) (by rw [hc3]; decide) (by rw [hc3]; rfl) (by decide) ?_
    refine lv_aload_n hx hb d_Mo_count_71 rfl (lv_at hl 0 rfl) ?_
    refine va_get (D := G) (ci := 8) (v := .ref z_now_a) (C := "YieldDeskModel") (T := F_Mo) (N := 25) hx hb hB fi_Mo hown hE.1 hP 0 rfl rfl 0 (by decide) (hB _ m_638) (fun _ h9 => h9) rfl d_Mo_count_72 ?_
    refine lv_bipush (v := (13 : Int32)) hx hb d_Mo_count_75 (by decide) ?_
    obtain ⟨hg4, hf⟩ := gdn hf
    refine va_iald hx hb hE.1 hP 1 0 rfl rfl hg4 d_Mo_count_77 ?_
    obtain rfl := Option.some.inj hf
    exact W.iret hx hb hr (x_ret hP hD hS hBp) hS.2.2 d_Mo_count_78
  replace hf := iteN hc3 hf
  by_cases hc5 : p0 = (2 : Int32)
  · replace hf := iteP hc5 hf
    refine lv_tableIn (off := 78) (tgt := 79) hx hb d_Mo_count_1 (by rw [hc5]; decide) (by rw [hc5]; decide) (by rw [hc5]; rfl) (by decide) ?_
    refine lv_aload_n hx hb d_Mo_count_79 rfl (lv_at hl 0 rfl) ?_
    refine va_get (D := G) (ci := 8) (v := .ref z_now_a) (C := "YieldDeskModel") (T := F_Mo) (N := 25) hx hb hB fi_Mo hown hE.1 hP 0 rfl rfl 0 (by decide) (hB _ m_638) (fun _ h9 => h9) rfl d_Mo_count_80 ?_
    refine lv_bipush (v := (14 : Int32)) hx hb d_Mo_count_83 (by decide) ?_
    obtain ⟨hg6, hf⟩ := gdn hf
    refine va_iald hx hb hE.1 hP 1 0 rfl rfl hg6 d_Mo_count_85 ?_
    obtain rfl := Option.some.inj hf
    exact W.iret hx hb hr (x_ret hP hD hS hBp) hS.2.2 d_Mo_count_86
  replace hf := iteN hc5 hf
  by_cases hc7 : p0 = (3 : Int32)
  · replace hf := iteP hc7 hf
    refine lv_tableIn (off := 86) (tgt := 87) hx hb d_Mo_count_1 (by rw [hc7]; decide) (by rw [hc7]; decide) (by rw [hc7]; rfl) (by decide) ?_
    refine lv_aload_n hx hb d_Mo_count_87 rfl (lv_at hl 0 rfl) ?_
    refine va_get (D := G) (ci := 8) (v := .ref z_now_a) (C := "YieldDeskModel") (T := F_Mo) (N := 25) hx hb hB fi_Mo hown hE.1 hP 0 rfl rfl 0 (by decide) (hB _ m_638) (fun _ h9 => h9) rfl d_Mo_count_88 ?_
    refine lv_bipush (v := (25 : Int32)) hx hb d_Mo_count_91 (by decide) ?_
    refine lv_iload_n hx hb d_Mo_count_93 rfl (lv_at hl 1 rfl) ?_
    refine lv_iadd hx hb d_Mo_count_94 ?_
    refine lv_iconst (v := (3 : Int32)) hx hb d_Mo_count_95 (by decide) ?_
    refine lv_isub hx hb d_Mo_count_96 ?_
    obtain ⟨hg8, hf⟩ := gdn hf
    refine va_iald hx hb hE.1 hP 1 0 rfl rfl hg8 d_Mo_count_97 ?_
    obtain rfl := Option.some.inj hf
    exact W.iret hx hb hr (x_ret hP hD hS hBp) hS.2.2 d_Mo_count_98
  replace hf := iteN hc7 hf
  by_cases hc9 : p0 = (4 : Int32)
  · replace hf := iteP hc9 hf
    refine lv_tableIn (off := 86) (tgt := 87) hx hb d_Mo_count_1 (by rw [hc9]; decide) (by rw [hc9]; decide) (by rw [hc9]; rfl) (by decide) ?_
    refine lv_aload_n hx hb d_Mo_count_87 rfl (lv_at hl 0 rfl) ?_
    refine va_get (D := G) (ci := 8) (v := .ref z_now_a) (C := "YieldDeskModel") (T := F_Mo) (N := 25) hx hb hB fi_Mo hown hE.1 hP 0 rfl rfl 0 (by decide) (hB _ m_638) (fun _ h9 => h9) rfl d_Mo_count_88 ?_
    refine lv_bipush (v := (25 : Int32)) hx hb d_Mo_count_91 (by decide) ?_
    refine lv_iload_n hx hb d_Mo_count_93 rfl (lv_at hl 1 rfl) ?_
    refine lv_iadd hx hb d_Mo_count_94 ?_
    refine lv_iconst (v := (3 : Int32)) hx hb d_Mo_count_95 (by decide) ?_
    refine lv_isub hx hb d_Mo_count_96 ?_
    obtain ⟨hg10, hf⟩ := gdn hf
    refine va_iald hx hb hE.1 hP 1 0 rfl rfl hg10 d_Mo_count_97 ?_
    obtain rfl := Option.some.inj hf
    exact W.iret hx hb hr (x_ret hP hD hS hBp) hS.2.2 d_Mo_count_98
  replace hf := iteN hc9 hf
  by_cases hc11 : p0 = (5 : Int32)
  · replace hf := iteP hc11 hf
    refine lv_tableIn (off := 86) (tgt := 87) hx hb d_Mo_count_1 (by rw [hc11]; decide) (by rw [hc11]; decide) (by rw [hc11]; rfl) (by decide) ?_
    refine lv_aload_n hx hb d_Mo_count_87 rfl (lv_at hl 0 rfl) ?_
    refine va_get (D := G) (ci := 8) (v := .ref z_now_a) (C := "YieldDeskModel") (T := F_Mo) (N := 25) hx hb hB fi_Mo hown hE.1 hP 0 rfl rfl 0 (by decide) (hB _ m_638) (fun _ h9 => h9) rfl d_Mo_count_88 ?_
    refine lv_bipush (v := (25 : Int32)) hx hb d_Mo_count_91 (by decide) ?_
    refine lv_iload_n hx hb d_Mo_count_93 rfl (lv_at hl 1 rfl) ?_
    refine lv_iadd hx hb d_Mo_count_94 ?_
    refine lv_iconst (v := (3 : Int32)) hx hb d_Mo_count_95 (by decide) ?_
    refine lv_isub hx hb d_Mo_count_96 ?_
    obtain ⟨hg12, hf⟩ := gdn hf
    refine va_iald hx hb hE.1 hP 1 0 rfl rfl hg12 d_Mo_count_97 ?_
    obtain rfl := Option.some.inj hf
    exact W.iret hx hb hr (x_ret hP hD hS hBp) hS.2.2 d_Mo_count_98
  replace hf := iteN hc11 hf
  by_cases hc13 : p0 = (6 : Int32)
  · replace hf := iteP hc13 hf
    refine lv_tableIn (off := 86) (tgt := 87) hx hb d_Mo_count_1 (by rw [hc13]; decide) (by rw [hc13]; decide) (by rw [hc13]; rfl) (by decide) ?_
    refine lv_aload_n hx hb d_Mo_count_87 rfl (lv_at hl 0 rfl) ?_
    refine va_get (D := G) (ci := 8) (v := .ref z_now_a) (C := "YieldDeskModel") (T := F_Mo) (N := 25) hx hb hB fi_Mo hown hE.1 hP 0 rfl rfl 0 (by decide) (hB _ m_638) (fun _ h9 => h9) rfl d_Mo_count_88 ?_
    refine lv_bipush (v := (25 : Int32)) hx hb d_Mo_count_91 (by decide) ?_
    refine lv_iload_n hx hb d_Mo_count_93 rfl (lv_at hl 1 rfl) ?_
    refine lv_iadd hx hb d_Mo_count_94 ?_
    refine lv_iconst (v := (3 : Int32)) hx hb d_Mo_count_95 (by decide) ?_
    refine lv_isub hx hb d_Mo_count_96 ?_
    obtain ⟨hg14, hf⟩ := gdn hf
    refine va_iald hx hb hE.1 hP 1 0 rfl rfl hg14 d_Mo_count_97 ?_
    obtain rfl := Option.some.inj hf
    exact W.iret hx hb hr (x_ret hP hD hS hBp) hS.2.2 d_Mo_count_98
  replace hf := iteN hc13 hf
  by_cases hc15 : p0 = (7 : Int32)
  · replace hf := iteP hc15 hf
    refine lv_tableIn (off := 86) (tgt := 87) hx hb d_Mo_count_1 (by rw [hc15]; decide) (by rw [hc15]; decide) (by rw [hc15]; rfl) (by decide) ?_
    refine lv_aload_n hx hb d_Mo_count_87 rfl (lv_at hl 0 rfl) ?_
    refine va_get (D := G) (ci := 8) (v := .ref z_now_a) (C := "YieldDeskModel") (T := F_Mo) (N := 25) hx hb hB fi_Mo hown hE.1 hP 0 rfl rfl 0 (by decide) (hB _ m_638) (fun _ h9 => h9) rfl d_Mo_count_88 ?_
    refine lv_bipush (v := (25 : Int32)) hx hb d_Mo_count_91 (by decide) ?_
    refine lv_iload_n hx hb d_Mo_count_93 rfl (lv_at hl 1 rfl) ?_
    refine lv_iadd hx hb d_Mo_count_94 ?_
    refine lv_iconst (v := (3 : Int32)) hx hb d_Mo_count_95 (by decide) ?_
    refine lv_isub hx hb d_Mo_count_96 ?_
    obtain ⟨hg16, hf⟩ := gdn hf
    refine va_iald hx hb hE.1 hP 1 0 rfl rfl hg16 d_Mo_count_97 ?_
    obtain rfl := Option.some.inj hf
    exact W.iret hx hb hr (x_ret hP hD hS hBp) hS.2.2 d_Mo_count_98
  replace hf := iteN hc15 hf
  by_cases hc17 : p0 = (8 : Int32)
  · replace hf := iteP hc17 hf
    refine lv_tableIn (off := 98) (tgt := 99) hx hb d_Mo_count_1 (by rw [hc17]; decide) (by rw [hc17]; decide) (by rw [hc17]; rfl) (by decide) ?_
    refine lv_aload_n hx hb d_Mo_count_99 rfl (lv_at hl 0 rfl) ?_
    obtain ⟨z18, hz18, hf⟩ := obn hf
    refine x_V (As := []) (rest := []) (wc := [(z, .inr (8, [.ref z_now_a, .ref z_read_a, .ref z_past_a, .int z_deeds, .ref z_images_a, .ref z_isKept_a, .ref z_seenAt_a, .ref z_seenVolume_a, .int z_seen, .ref z_text_a, .int z_letters, .int z_at, .int z_tokenAt, .int z_tokenSort, .int z_tokenValue, .int z_items, .int z_toldItems, .long z_fromAbove, .long z_fromBelow, .long z_toAbove, .long z_toBelow, .ref z_firstAt_a, .ref z_failedBy_a, .ref z_volumes_a, .ref z_fit_a])), (z_now_a, .inl (cy 0, 30, .inl z_now)), (z_read_a, .inl (cy 0, 30, .inl z_read)), (z_past_a, .inl (cy 0, 180, .inl z_past)), (z_images_a, .inl (cy 0, 60, .inl z_images)), (z_isKept_a, .inl (cy 1, 2, .inl z_isKept)), (z_seenAt_a, .inl (cy 0, 6, .inl z_seenAt)), (z_seenVolume_a, .inl (cy 0, 6, .inl z_seenVolume)), (z_text_a, .inl (cy 0, 120, .inl z_text)), (z_firstAt_a, .inl (cy 0, 1000, .inl z_firstAt)), (z_failedBy_a, .inl (cy 0, 1000, .inl z_failedBy)), (z_volumes_a, .inl (cy 0, 4000, .inl z_volumes)), (z_fit_a, .inl (cy 1, 100, .inl z_fit))]) (wr := []) (t_Mo_total l G cy kz N0  z z_deeds z_seen z_letters z_at z_tokenAt z_tokenSort z_tokenValue z_items z_toldItems z_fromAbove z_fromBelow z_toAbove z_toBelow z_now_a z_now z_read_a z_read z_past_a z_past z_images_a z_images z_isKept_a z_isKept z_seenAt_a z_seenAt z_seenVolume_a z_seenVolume z_text_a z_text z_firstAt_a z_firstAt z_failedBy_a z_failedBy z_volumes_a z_volumes z_fit_a z_fit z18 hz18 (fun w => w = [(z, .inr (8, [.ref z_now_a, .ref z_read_a, .ref z_past_a, .int z_deeds, .ref z_images_a, .ref z_isKept_a, .ref z_seenAt_a, .ref z_seenVolume_a, .int z_seen, .ref z_text_a, .int z_letters, .int z_at, .int z_tokenAt, .int z_tokenSort, .int z_tokenValue, .int z_items, .int z_toldItems, .long z_fromAbove, .long z_fromBelow, .long z_toAbove, .long z_toBelow, .ref z_firstAt_a, .ref z_failedBy_a, .ref z_volumes_a, .ref z_fit_a])), (z_now_a, .inl (cy 0, 30, .inl z_now)), (z_read_a, .inl (cy 0, 30, .inl z_read)), (z_past_a, .inl (cy 0, 180, .inl z_past)), (z_images_a, .inl (cy 0, 60, .inl z_images)), (z_isKept_a, .inl (cy 1, 2, .inl z_isKept)), (z_seenAt_a, .inl (cy 0, 6, .inl z_seenAt)), (z_seenVolume_a, .inl (cy 0, 6, .inl z_seenVolume)), (z_text_a, .inl (cy 0, 120, .inl z_text)), (z_firstAt_a, .inl (cy 0, 1000, .inl z_firstAt)), (z_failedBy_a, .inl (cy 0, 1000, .inl z_failedBy)), (z_volumes_a, .inl (cy 0, 4000, .inl z_volumes)), (z_fit_a, .inl (cy 1, 100, .inl z_fit))]) rfl) hx hb hml hown hB hE hN hNA m_817 m_819 mS_Mo_total m_9 m_820 hdV_Mo_total ⟨Nat.le_of_ble_eq_true rfl, Nat.le_of_ble_eq_true rfl, Nat.le_of_ble_eq_true rfl, Nat.le_of_ble_eq_true rfl⟩ hP hD hS hA 0 8 rfl rfl rfl [0, 1, 2, 3, 4, 5, 6, 7, 8, 9, 10, 11, 12] [] rfl rfl (by decide) (by decide) hl.1 rfl (Nat.le_of_ble_eq_true rfl) d_Mo_count_100 (fun _ H locs hw hP hD hS => ?_)
    subst hw
    replace hP : va_P G classes [(z, .inr (8, [.ref z_now_a, .ref z_read_a, .ref z_past_a, .int z_deeds, .ref z_images_a, .ref z_isKept_a, .ref z_seenAt_a, .ref z_seenVolume_a, .int z_seen, .ref z_text_a, .int z_letters, .int z_at, .int z_tokenAt, .int z_tokenSort, .int z_tokenValue, .int z_items, .int z_toldItems, .long z_fromAbove, .long z_fromBelow, .long z_toAbove, .long z_toBelow, .ref z_firstAt_a, .ref z_failedBy_a, .ref z_volumes_a, .ref z_fit_a])), (z_now_a, .inl (cy 0, 30, .inl z_now)), (z_read_a, .inl (cy 0, 30, .inl z_read)), (z_past_a, .inl (cy 0, 180, .inl z_past)), (z_images_a, .inl (cy 0, 60, .inl z_images)), (z_isKept_a, .inl (cy 1, 2, .inl z_isKept)), (z_seenAt_a, .inl (cy 0, 6, .inl z_seenAt)), (z_seenVolume_a, .inl (cy 0, 6, .inl z_seenVolume)), (z_text_a, .inl (cy 0, 120, .inl z_text)), (z_firstAt_a, .inl (cy 0, 1000, .inl z_firstAt)), (z_failedBy_a, .inl (cy 0, 1000, .inl z_failedBy)), (z_volumes_a, .inl (cy 0, 4000, .inl z_volumes)), (z_fit_a, .inl (cy 1, 100, .inl z_fit))] H := hP.sub [0, 1, 2, 3, 4, 5, 6, 7, 8, 9, 10, 11, 12] rfl
    replace hD : va_D A [(z, .inr (8, [.ref z_now_a, .ref z_read_a, .ref z_past_a, .int z_deeds, .ref z_images_a, .ref z_isKept_a, .ref z_seenAt_a, .ref z_seenVolume_a, .int z_seen, .ref z_text_a, .int z_letters, .int z_at, .int z_tokenAt, .int z_tokenSort, .int z_tokenValue, .int z_items, .int z_toldItems, .long z_fromAbove, .long z_fromBelow, .long z_toAbove, .long z_toBelow, .ref z_firstAt_a, .ref z_failedBy_a, .ref z_volumes_a, .ref z_fit_a])), (z_now_a, .inl (cy 0, 30, .inl z_now)), (z_read_a, .inl (cy 0, 30, .inl z_read)), (z_past_a, .inl (cy 0, 180, .inl z_past)), (z_images_a, .inl (cy 0, 60, .inl z_images)), (z_isKept_a, .inl (cy 1, 2, .inl z_isKept)), (z_seenAt_a, .inl (cy 0, 6, .inl z_seenAt)), (z_seenVolume_a, .inl (cy 0, 6, .inl z_seenVolume)), (z_text_a, .inl (cy 0, 120, .inl z_text)), (z_firstAt_a, .inl (cy 0, 1000, .inl z_firstAt)), (z_failedBy_a, .inl (cy 0, 1000, .inl z_failedBy)), (z_volumes_a, .inl (cy 0, 4000, .inl z_volumes)), (z_fit_a, .inl (cy 1, 100, .inl z_fit))] := hD.sub [0, 1, 2, 3, 4, 5, 6, 7, 8, 9, 10, 11, 12] (by decide) rfl
    obtain rfl := Option.some.inj hf
    exact W.iret hx hb hr (x_ret hP hD hS hBp) hS.2.2 d_Mo_count_103
  replace hf := iteN hc17 hf
  by_cases hc19 : p0 = (9 : Int32)
  · replace hf := iteP hc19 hf
    refine lv_tableIn (off := 103) (tgt := 104) hx hb d_Mo_count_1 (by rw [hc19]; decide) (by rw [hc19]; decide) (by rw [hc19]; rfl) (by decide) ?_
    refine lv_aload_n hx hb d_Mo_count_104 rfl (lv_at hl 0 rfl) ?_
    refine va_get (D := G) (ci := 8) (v := .int z_seen) (C := "YieldDeskModel") (T := F_Mo) (N := 25) hx hb hB fi_Mo hown hE.1 hP 0 rfl rfl 8 (by decide) (hB _ m_646) (fun _ h9 => h9) rfl d_Mo_count_105 ?_
    obtain rfl := Option.some.inj hf
    exact W.iret hx hb hr (x_ret hP hD hS hBp) hS.2.2 d_Mo_count_108
  replace hf := iteN hc19 hf
  by_cases hc20 : p0 = (10 : Int32)
  · replace hf := iteP hc20 hf
    refine lv_tableIn (off := 108) (tgt := 109) hx hb d_Mo_count_1 (by rw [hc20]; decide) (by rw [hc20]; decide) (by rw [hc20]; rfl) (by decide) ?_
    refine lv_aload_n hx hb d_Mo_count_109 rfl (lv_at hl 0 rfl) ?_
    refine va_get (D := G) (ci := 8) (v := .int z_letters) (C := "YieldDeskModel") (T := F_Mo) (N := 25) hx hb hB fi_Mo hown hE.1 hP 0 rfl rfl 10 (by decide) (hB _ m_648) (fun _ h9 => h9) rfl d_Mo_count_110 ?_
    obtain rfl := Option.some.inj hf
    exact W.iret hx hb hr (x_ret hP hD hS hBp) hS.2.2 d_Mo_count_113
  replace hf := iteN hc20 hf
  by_cases hc21 : p0 = (11 : Int32)
  · replace hf := iteP hc21 hf
    refine lv_tableIn (off := 113) (tgt := 114) hx hb d_Mo_count_1 (by rw [hc21]; decide) (by rw [hc21]; decide) (by rw [hc21]; rfl) (by decide) ?_
    refine lv_aload_n hx hb d_Mo_count_114 rfl (lv_at hl 0 rfl) ?_
    refine va_get (D := G) (ci := 8) (v := .int z_deeds) (C := "YieldDeskModel") (T := F_Mo) (N := 25) hx hb hB fi_Mo hown hE.1 hP 0 rfl rfl 3 (by decide) (hB _ m_641) (fun _ h9 => h9) rfl d_Mo_count_115 ?_
    obtain rfl := Option.some.inj hf
    exact W.iret hx hb hr (x_ret hP hD hS hBp) hS.2.2 d_Mo_count_118
  replace hf := iteN hc21 hf
  have ehc1 := lv_neT (a := 0) hc1 rfl
  have ehc3 := lv_neT (a := 1) hc3 rfl
  have ehc5 := lv_neT (a := 2) hc5 rfl
  have ehc7 := lv_neT (a := 3) hc7 rfl
  have ehc9 := lv_neT (a := 4) hc9 rfl
  have ehc11 := lv_neT (a := 5) hc11 rfl
  have ehc13 := lv_neT (a := 6) hc13 rfl
  have ehc15 := lv_neT (a := 7) hc15 rfl
  have ehc17 := lv_neT (a := 8) hc17 rfl
  have ehc19 := lv_neT (a := 9) hc19 rfl
  have ehc20 := lv_neT (a := 10) hc20 rfl
  have ehc21 := lv_neT (a := 11) hc21 rfl
  refine lv_tableOut (tgt := 119) hx hb d_Mo_count_1 (by omega) (by decide) ?_
  refine lv_iconst (v := (-1 : Int32)) hx hb d_Mo_count_119 (by decide) ?_
  obtain rfl := Option.some.inj hf
  exact W.iret hx hb hr (x_ret hP hD hS hBp) hS.2.2 d_Mo_count_120
