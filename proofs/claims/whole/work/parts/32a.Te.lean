set_option maxHeartbeats 4000000 in
set_option maxRecDepth 100000 in
theorem t_Te_append (l : Launch) (G : va_G) (cy : Nat → ClassId) (kz : Nat → Nat) (N0 : Nat) (z : Nat) (z_length : Int32) (z_kind : Int32) (z_numbers : Int32) (z_items : Int32) (z_kindsTold : Int32) (z_letters_a : Nat) (z_letters : Nat → Int32) (p0 : Int32) (out : Int32 × Int32 × (Nat → Int32)) (h0 : f_Te_append z_length z_letters p0 = some out) (Bp : va_W → Prop) (hBp : Bp [(z, .inr (6, [.ref z_letters_a, .int out.2.1, .int z_kind, .int z_numbers, .int z_items, .int z_kindsTold])), (z_letters_a, .inl (cy 0, 120, .inl out.2.2))]) : CT l G cy kz N0 y_Te_append b_Te_append 2 (some .boolean) 0 0 0 [.ref z, .int p0] [(z, .inr (6, [.ref z_letters_a, .int z_length, .int z_kind, .int z_numbers, .int z_items, .int z_kindsTold])), (z_letters_a, .inl (cy 0, 120, .inl z_letters))] (some (.int out.1)) Bp := by
  refine CT.of (by decide) (Nat.le_of_ble_eq_true rfl) ?_
  intro p e s m below meth c A ls hx hb hr hml hB hown hlocks hnm hE hN hA hNA hP hD hS hl
  have hown : s.vm.findClass "YieldDesk$TellText" = some m.cls := hown
  have hl : lv_has ls 2 [(0, .ref z), (1, .int p0)] := hl
  have hf := h0
  unfold f_Te_append at hf
  refine lv_aload_n hx hb d_Te_append_0 rfl (lv_at hl 0 rfl) ?_
  refine va_get (D := G) (ci := 6) (v := .int z_length) (C := "YieldDesk$TellText") (T := F_Te) (N := 6) hx hb hB fi_Te hown hE.1 hP 0 rfl rfl 1 (by decide) (hB _ m_81) (fun _ h9 => h9) rfl d_Te_append_1 ?_
  refine lv_bipush (v := (120 : Int32)) hx hb d_Te_append_4 (by decide) ?_
  refine lv_icmp_lt (tgt := 11) hx hb d_Te_append_6 (by decide) (fun hc1 => ?_) (fun hc1 => ?_)
  · replace hf := iteP hc1 hf
    refine lv_aload_n hx hb d_Te_append_11 rfl (lv_at hl 0 rfl) ?_
    refine va_get (D := G) (ci := 6) (v := .ref z_letters_a) (C := "YieldDesk$TellText") (T := F_Te) (N := 6) hx hb hB fi_Te hown hE.1 hP 0 rfl rfl 0 (by decide) (hB _ m_80) (fun _ h9 => h9) rfl d_Te_append_12 ?_
    refine lv_aload_n hx hb d_Te_append_15 rfl (lv_at hl 0 rfl) ?_
    refine va_get (D := G) (ci := 6) (v := .int z_length) (C := "YieldDesk$TellText") (T := F_Te) (N := 6) hx hb hB fi_Te hown hE.1 hP 0 rfl rfl 1 (by decide) (hB _ m_81) (fun _ h9 => h9) rfl d_Te_append_16 ?_
    refine lv_iload_n hx hb d_Te_append_19 rfl (lv_at hl 1 rfl) ?_
    obtain ⟨hg2, hf⟩ := gdn hf
    refine va_iast hx hb hE.1 hP hD hS 1 0 rfl rfl hg2 d_Te_append_20 (fun H locs hP hD hS => ?_)
    have hP : va_P G classes [(z, .inr (6, [.ref z_letters_a, .int z_length, .int z_kind, .int z_numbers, .int z_items, .int z_kindsTold])), (z_letters_a, .inl (cy 0, 120, .inl (upd z_letters z_length.toNatClampNeg p0)))] H := hP
    have hD : va_D A [(z, .inr (6, [.ref z_letters_a, .int z_length, .int z_kind, .int z_numbers, .int z_items, .int z_kindsTold])), (z_letters_a, .inl (cy 0, 120, .inl (upd z_letters z_length.toNatClampNeg p0)))] := hD
    refine lv_aload_n hx hb d_Te_append_21 rfl (lv_at hl 0 rfl) ?_
    refine lv_dup hx hb d_Te_append_22 rfl ?_
    refine va_get (D := G) (ci := 6) (v := .int z_length) (C := "YieldDesk$TellText") (T := F_Te) (N := 6) hx hb hB fi_Te hown hE.1 hP 0 rfl rfl 1 (by decide) (hB _ m_81) (fun _ h9 => h9) rfl d_Te_append_23 ?_
    refine lv_iconst (v := (1 : Int32)) hx hb d_Te_append_26 (by decide) ?_
    refine lv_iadd hx hb d_Te_append_27 ?_
    refine va_put (D := G) (ci := 6) (v := .int (z_length + (1 : Int32))) (ty := .int) (C := "YieldDesk$TellText") (T := F_Te) (N := 6) hx hb hB fi_Te ft_Te fo_Te fn_Te hown hE.1 hP hD hS 0 rfl rfl 1 (by decide) (hB _ m_81) (fun _ h9 => h9) rfl (by decide +kernel) rfl rfl (Nat.le_of_ble_eq_true rfl) d_Te_append_28 (fun H locs hP hD hS => ?_)
    have hP : va_P G classes [(z, .inr (6, [.ref z_letters_a, .int (z_length + (1 : Int32)), .int z_kind, .int z_numbers, .int z_items, .int z_kindsTold])), (z_letters_a, .inl (cy 0, 120, .inl (upd z_letters z_length.toNatClampNeg p0)))] H := hP
    have hD : va_D A [(z, .inr (6, [.ref z_letters_a, .int (z_length + (1 : Int32)), .int z_kind, .int z_numbers, .int z_items, .int z_kindsTold])), (z_letters_a, .inl (cy 0, 120, .inl (upd z_letters z_length.toNatClampNeg p0)))] := hD
    refine lv_iconst (v := (1 : Int32)) hx hb d_Te_append_31 (by decide) ?_
    obtain rfl := Option.some.inj hf
    exact W.zret (v := (1 : Int32)) hx hb hr (show narrow .boolean (.int (1 : Int32)) = .int (1 : Int32) from rfl) (x_ret hP hD hS hBp) hS.2.2 d_Te_append_32
  · replace hf := iteN hc1 hf
    refine lv_iconst (v := (0 : Int32)) hx hb d_Te_append_9 (by decide) ?_
    obtain rfl := Option.some.inj hf
    exact W.zret (v := (0 : Int32)) hx hb hr (show narrow .boolean (.int (0 : Int32)) = .int (0 : Int32) from rfl) (x_ret hP hD hS hBp) hS.2.2 d_Te_append_10
set_option maxHeartbeats 4000000 in
set_option maxRecDepth 100000 in
theorem t_Te_empty (l : Launch) (G : va_G) (cy : Nat → ClassId) (kz : Nat → Nat) (N0 : Nat) (z : Nat) (z_length : Int32) (z_kind : Int32) (z_numbers : Int32) (z_items : Int32) (z_kindsTold : Int32) (z_letters_a : Nat) (z_letters : Nat → Int32) (out : Int32 × Int32) (h0 : f_Te_empty z_length = some out) (Bp : va_W → Prop) (hBp : Bp [(z, .inr (6, [.ref z_letters_a, .int out.2, .int z_kind, .int z_numbers, .int z_items, .int z_kindsTold])), (z_letters_a, .inl (cy 0, 120, .inl z_letters))]) : CT l G cy kz N0 y_Te_empty b_Te_empty 2 (some .int) 0 0 0 [.ref z] [(z, .inr (6, [.ref z_letters_a, .int z_length, .int z_kind, .int z_numbers, .int z_items, .int z_kindsTold])), (z_letters_a, .inl (cy 0, 120, .inl z_letters))] (some (.int out.1)) Bp := by
  refine CT.of (by decide) (Nat.le_of_ble_eq_true rfl) ?_
  intro p e s m below meth c A ls hx hb hr hml hB hown hlocks hnm hE hN hA hNA hP hD hS hl
  have hown : s.vm.findClass "YieldDesk$TellText" = some m.cls := hown
  have hl : lv_has ls 2 [(0, .ref z)] := hl
  have hf := h0
  unfold f_Te_empty at hf
  refine lv_aload_n hx hb d_Te_empty_0 rfl (lv_at hl 0 rfl) ?_
  refine va_get (D := G) (ci := 6) (v := .int z_length) (C := "YieldDesk$TellText") (T := F_Te) (N := 6) hx hb hB fi_Te hown hE.1 hP 0 rfl rfl 1 (by decide) (hB _ m_81) (fun _ h9 => h9) rfl d_Te_empty_1 ?_
  refine lv_istore_n (lv' := [(1, .int z_length), (0, .ref z)]) hx hb d_Te_empty_4 rfl hl (by decide) rfl (fun ls hl => ?_)
  refine lv_aload_n hx hb d_Te_empty_5 rfl (lv_at hl 1 rfl) ?_
  refine lv_iconst (v := (0 : Int32)) hx hb d_Te_empty_6 (by decide) ?_
  refine va_put (D := G) (ci := 6) (v := .int (0 : Int32)) (ty := .int) (C := "YieldDesk$TellText") (T := F_Te) (N := 6) hx hb hB fi_Te ft_Te fo_Te fn_Te hown hE.1 hP hD hS 0 rfl rfl 1 (by decide) (hB _ m_81) (fun _ h9 => h9) rfl (by decide +kernel) rfl rfl (Nat.le_of_ble_eq_true rfl) d_Te_empty_7 (fun H locs hP hD hS => ?_)
  have hP : va_P G classes [(z, .inr (6, [.ref z_letters_a, .int (0 : Int32), .int z_kind, .int z_numbers, .int z_items, .int z_kindsTold])), (z_letters_a, .inl (cy 0, 120, .inl z_letters))] H := hP
  have hD : va_D A [(z, .inr (6, [.ref z_letters_a, .int (0 : Int32), .int z_kind, .int z_numbers, .int z_items, .int z_kindsTold])), (z_letters_a, .inl (cy 0, 120, .inl z_letters))] := hD
  refine lv_iload_n hx hb d_Te_empty_10 rfl (lv_at hl 0 rfl) ?_
  obtain rfl := Option.some.inj hf
  exact W.iret hx hb hr (x_ret hP hD hS hBp) hS.2.2 d_Te_empty_11
set_option maxHeartbeats 4000000 in
set_option maxRecDepth 100000 in
theorem t_Te_letterAt (l : Launch) (G : va_G) (cy : Nat → ClassId) (kz : Nat → Nat) (N0 : Nat) (z : Nat) (z_length : Int32) (z_kind : Int32) (z_numbers : Int32) (z_items : Int32) (z_kindsTold : Int32) (z_letters_a : Nat) (z_letters : Nat → Int32) (p0 : Int32) (out : Int32) (h0 : f_Te_letterAt z_length z_letters p0 = some out) (Bp : va_W → Prop) (hBp : Bp [(z, .inr (6, [.ref z_letters_a, .int z_length, .int z_kind, .int z_numbers, .int z_items, .int z_kindsTold])), (z_letters_a, .inl (cy 0, 120, .inl z_letters))]) : CT l G cy kz N0 y_Te_letterAt b_Te_letterAt 2 (some .int) 1 0 0 [.ref z, .int p0] [(z, .inr (6, [.ref z_letters_a, .int z_length, .int z_kind, .int z_numbers, .int z_items, .int z_kindsTold])), (z_letters_a, .inl (cy 0, 120, .inl z_letters))] (some (.int out)) Bp := by
  refine CT.of (by decide) (Nat.le_of_ble_eq_true rfl) ?_
  intro p e s m below meth c A ls hx hb hr hml hB hown hlocks hnm hE hN hA hNA hP hD hS hl
  have hown : s.vm.findClass "YieldDesk$TellText" = some m.cls := hown
  have hl : lv_has ls 2 [(0, .ref z), (1, .int p0)] := hl
  have hf := h0
  unfold f_Te_letterAt at hf
  refine lv_iload_n hx hb d_Te_letterAt_0 rfl (lv_at hl 1 rfl) ?_
  refine lv_iconst (v := (0 : Int32)) hx hb d_Te_letterAt_1 (by decide) ?_
  refine lv_aload_n hx hb d_Te_letterAt_2 rfl (lv_at hl 0 rfl) ?_
  refine va_get (D := G) (ci := 6) (v := .int z_length) (C := "YieldDesk$TellText") (T := F_Te) (N := 6) hx hb hB fi_Te hown hE.1 hP 0 rfl rfl 1 (by decide) (hB _ m_81) (fun _ h9 => h9) rfl d_Te_letterAt_3 ?_
  refine lv_bipush (v := (120 : Int32)) hx hb d_Te_letterAt_6 (by decide) ?_
  refine va_mmin hx hb (hml.trans hl.1.symm) hown (hB _ m_270) (hB _ m_271) (hB _ m_10) (hB _ m_272) (Nat.le_of_ble_eq_true rfl) (Nat.le_of_ble_eq_true rfl) (Nat.le_of_ble_eq_true rfl) (Nat.le_of_ble_eq_true rfl) d_Te_letterAt_8 ?_
  refine lv_iconst (v := (1 : Int32)) hx hb d_Te_letterAt_11 (by decide) ?_
  refine lv_isub hx hb d_Te_letterAt_12 ?_
  obtain ⟨z1, hz1, hf⟩ := obn hf
  refine x_SN0 (As := [.int p0, .int (0 : Int32), .int ((if (120 : Int32) < z_length then (120 : Int32) else z_length) - (1 : Int32))]) (rest := []) (t_Ye_isOutside l G cy kz N0  p0 (0 : Int32) ((if (120 : Int32) < z_length then (120 : Int32) else z_length) - (1 : Int32)) z1 hz1 (fun w => w = []) rfl) hx hb hml hown hB hE hN hNA (List.mem_of_getElem? (i := 8) rfl) m_240 m_1 m_241 hdS_Ye_isOutside ⟨Nat.le_of_ble_eq_true rfl, Nat.le_of_ble_eq_true rfl, Nat.le_of_ble_eq_true rfl, Nat.le_of_ble_eq_true rfl⟩ hP hD hS hA hl.1 rfl (Nat.le_of_ble_eq_true rfl) d_Te_letterAt_13 (fun H locs hP hD hS => ?_)
  refine lv_if_eq (tgt := 24) hx hb d_Te_letterAt_16 (by decide) (fun hc2 => ?_) (fun hc2 => ?_)
  · replace hf := iteP hc2 hf
    refine lv_aload_n hx hb d_Te_letterAt_24 rfl (lv_at hl 0 rfl) ?_
    refine va_get (D := G) (ci := 6) (v := .ref z_letters_a) (C := "YieldDesk$TellText") (T := F_Te) (N := 6) hx hb hB fi_Te hown hE.1 hP 0 rfl rfl 0 (by decide) (hB _ m_80) (fun _ h9 => h9) rfl d_Te_letterAt_25 ?_
    refine lv_iload_n hx hb d_Te_letterAt_28 rfl (lv_at hl 1 rfl) ?_
    obtain ⟨hg3, hf⟩ := gdn hf
    refine va_iald hx hb hE.1 hP 1 0 rfl rfl hg3 d_Te_letterAt_29 ?_
    obtain rfl := Option.some.inj hf
    exact W.iret hx hb hr (x_ret hP hD hS hBp) hS.2.2 d_Te_letterAt_30
  · replace hf := iteN hc2 hf
    refine lv_bipush (v := (32 : Int32)) hx hb d_Te_letterAt_19 (by decide) ?_
    refine lv_goto (tgt := 30) hx hb d_Te_letterAt_21 (by decide) ?_
    obtain rfl := Option.some.inj hf
    exact W.iret hx hb hr (x_ret hP hD hS hBp) hS.2.2 d_Te_letterAt_30
set_option maxHeartbeats 4000000 in
set_option maxRecDepth 100000 in
theorem t_Te_isFigure (l : Launch) (G : va_G) (cy : Nat → ClassId) (kz : Nat → Nat) (N0 : Nat) (z : Nat) (z_length : Int32) (z_kind : Int32) (z_numbers : Int32) (z_items : Int32) (z_kindsTold : Int32) (z_letters_a : Nat) (z_letters : Nat → Int32) (p0 : Int32) (out : Int32) (h0 : f_Te_isFigure z_length z_letters p0 = some out) (Bp : va_W → Prop) (hBp : Bp [(z, .inr (6, [.ref z_letters_a, .int z_length, .int z_kind, .int z_numbers, .int z_items, .int z_kindsTold])), (z_letters_a, .inl (cy 0, 120, .inl z_letters))]) : CT l G cy kz N0 y_Te_isFigure b_Te_isFigure 3 (some .boolean) 2 0 0 [.ref z, .int p0] [(z, .inr (6, [.ref z_letters_a, .int z_length, .int z_kind, .int z_numbers, .int z_items, .int z_kindsTold])), (z_letters_a, .inl (cy 0, 120, .inl z_letters))] (some (.int out)) Bp := by
  refine CT.of (by decide) (Nat.le_of_ble_eq_true rfl) ?_
  intro p e s m below meth c A ls hx hb hr hml hB hown hlocks hnm hE hN hA hNA hP hD hS hl
  have hown : s.vm.findClass "YieldDesk$TellText" = some m.cls := hown
  have hl : lv_has ls 3 [(0, .ref z), (1, .int p0)] := hl
  have hf := h0
  unfold f_Te_isFigure at hf
  refine lv_aload_n hx hb d_Te_isFigure_0 rfl (lv_at hl 0 rfl) ?_
  refine lv_iload_n hx hb d_Te_isFigure_1 rfl (lv_at hl 1 rfl) ?_
  obtain ⟨z1, hz1, hf⟩ := obn hf
  refine x_V (As := [.int p0]) (rest := []) (wc := [(z, .inr (6, [.ref z_letters_a, .int z_length, .int z_kind, .int z_numbers, .int z_items, .int z_kindsTold])), (z_letters_a, .inl (cy 0, 120, .inl z_letters))]) (wr := []) (t_Te_letterAt l G cy kz N0  z z_length z_kind z_numbers z_items z_kindsTold z_letters_a z_letters p0 z1 hz1 (fun w => w = [(z, .inr (6, [.ref z_letters_a, .int z_length, .int z_kind, .int z_numbers, .int z_items, .int z_kindsTold])), (z_letters_a, .inl (cy 0, 120, .inl z_letters))]) rfl) hx hb hml hown hB hE hN hNA m_266 m_268 mS_Te_letterAt m_3 m_269 hdV_Te_letterAt ⟨Nat.le_of_ble_eq_true rfl, Nat.le_of_ble_eq_true rfl, Nat.le_of_ble_eq_true rfl, Nat.le_of_ble_eq_true rfl⟩ hP hD hS hA 0 6 rfl rfl rfl [0, 1] [] rfl rfl (by decide) (by decide) hl.1 rfl (Nat.le_of_ble_eq_true rfl) d_Te_isFigure_2 (fun _ H locs hw hP hD hS => ?_)
  subst hw
  replace hP : va_P G classes [(z, .inr (6, [.ref z_letters_a, .int z_length, .int z_kind, .int z_numbers, .int z_items, .int z_kindsTold])), (z_letters_a, .inl (cy 0, 120, .inl z_letters))] H := hP.sub [0, 1] rfl
  replace hD : va_D A [(z, .inr (6, [.ref z_letters_a, .int z_length, .int z_kind, .int z_numbers, .int z_items, .int z_kindsTold])), (z_letters_a, .inl (cy 0, 120, .inl z_letters))] := hD.sub [0, 1] (by decide) rfl
  refine lv_istore_n (lv' := [(2, .int z1), (0, .ref z), (1, .int p0)]) hx hb d_Te_isFigure_5 rfl hl (by decide) rfl (fun ls hl => ?_)
  refine lv_iload_n hx hb d_Te_isFigure_6 rfl (lv_at hl 0 rfl) ?_
  refine lv_bipush (v := (48 : Int32)) hx hb d_Te_isFigure_7 (by decide) ?_
  refine lv_icmp_lt (tgt := 22) hx hb d_Te_isFigure_9 (by decide) (fun hc2 => ?_) (fun hc2 => ?_)
  · replace hf := iteP hc2 hf
    refine lv_iconst (v := (0 : Int32)) hx hb d_Te_isFigure_22 (by decide) ?_
    obtain rfl := Option.some.inj hf
    exact W.zret (v := (0 : Int32)) hx hb hr (show narrow .boolean (.int (0 : Int32)) = .int (0 : Int32) from rfl) (x_ret hP hD hS hBp) hS.2.2 d_Te_isFigure_23
  · replace hf := iteN hc2 hf
    refine lv_iload_n hx hb d_Te_isFigure_12 rfl (lv_at hl 0 rfl) ?_
    refine lv_bipush (v := (57 : Int32)) hx hb d_Te_isFigure_13 (by decide) ?_
    refine lv_icmp_gt (tgt := 22) hx hb d_Te_isFigure_15 (by decide) (fun hc3 => ?_) (fun hc3 => ?_)
    · replace hf := iteP hc3 hf
      refine lv_iconst (v := (0 : Int32)) hx hb d_Te_isFigure_22 (by decide) ?_
      obtain rfl := Option.some.inj hf
      exact W.zret (v := (0 : Int32)) hx hb hr (show narrow .boolean (.int (0 : Int32)) = .int (0 : Int32) from rfl) (x_ret hP hD hS hBp) hS.2.2 d_Te_isFigure_23
    · replace hf := iteN hc3 hf
      refine lv_iconst (v := (1 : Int32)) hx hb d_Te_isFigure_18 (by decide) ?_
      refine lv_goto (tgt := 23) hx hb d_Te_isFigure_19 (by decide) ?_
      obtain rfl := Option.some.inj hf
      exact W.zret (v := (1 : Int32)) hx hb hr (show narrow .boolean (.int (1 : Int32)) = .int (1 : Int32) from rfl) (x_ret hP hD hS hBp) hS.2.2 d_Te_isFigure_23
set_option maxHeartbeats 4000000 in
set_option maxRecDepth 100000 in
theorem t_Te_endOfToken (l : Launch) (G : va_G) (cy : Nat → ClassId) (kz : Nat → Nat) (N0 : Nat) (z : Nat) (z_length : Int32) (z_kind : Int32) (z_numbers : Int32) (z_items : Int32) (z_kindsTold : Int32) (z_letters_a : Nat) (z_letters : Nat → Int32) (p0 : Int32) (out : Int32) (h0 : f_Te_endOfToken z_length z_letters p0 = some out) (Bp : va_W → Prop) (hBp : Bp [(z, .inr (6, [.ref z_letters_a, .int z_length, .int z_kind, .int z_numbers, .int z_items, .int z_kindsTold])), (z_letters_a, .inl (cy 0, 120, .inl z_letters))]) : CT l G cy kz N0 y_Te_endOfToken b_Te_endOfToken 3 (some .int) 3 0 0 [.ref z, .int p0] [(z, .inr (6, [.ref z_letters_a, .int z_length, .int z_kind, .int z_numbers, .int z_items, .int z_kindsTold])), (z_letters_a, .inl (cy 0, 120, .inl z_letters))] (some (.int out)) Bp := by
  refine CT.of (by decide) (Nat.le_of_ble_eq_true rfl) ?_
  intro p e s m below meth c A ls hx hb hr hml hB hown hlocks hnm hE hN hA hNA hP hD hS hl
  have hown : s.vm.findClass "YieldDesk$TellText" = some m.cls := hown
  have hl : lv_has ls 3 [(0, .ref z), (1, .int p0)] := hl
  have hf := h0
  unfold f_Te_endOfToken at hf
  refine lv_iload_n hx hb d_Te_endOfToken_0 rfl (lv_at hl 1 rfl) ?_
  refine lv_iconst (v := (1 : Int32)) hx hb d_Te_endOfToken_1 (by decide) ?_
  refine lv_iadd hx hb d_Te_endOfToken_2 ?_
  refine lv_istore_n (lv' := [(2, .int (p0 + (1 : Int32))), (0, .ref z), (1, .int p0)]) hx hb d_Te_endOfToken_3 rfl hl (by decide) rfl (fun ls hl => ?_)
  refine lv_aload_n hx hb d_Te_endOfToken_4 rfl (lv_at hl 1 rfl) ?_
  refine lv_iload_n hx hb d_Te_endOfToken_5 rfl (lv_at hl 2 rfl) ?_
  obtain ⟨z1, hz1, hf⟩ := obn hf
  refine x_V (As := [.int p0]) (rest := []) (wc := [(z, .inr (6, [.ref z_letters_a, .int z_length, .int z_kind, .int z_numbers, .int z_items, .int z_kindsTold])), (z_letters_a, .inl (cy 0, 120, .inl z_letters))]) (wr := []) (t_Te_isFigure l G cy kz N0  z z_length z_kind z_numbers z_items z_kindsTold z_letters_a z_letters p0 z1 hz1 (fun w => w = [(z, .inr (6, [.ref z_letters_a, .int z_length, .int z_kind, .int z_numbers, .int z_items, .int z_kindsTold])), (z_letters_a, .inl (cy 0, 120, .inl z_letters))]) rfl) hx hb hml hown hB hE hN hNA m_278 m_280 mS_Te_isFigure m_3 m_281 hdV_Te_isFigure ⟨Nat.le_of_ble_eq_true rfl, Nat.le_of_ble_eq_true rfl, Nat.le_of_ble_eq_true rfl, Nat.le_of_ble_eq_true rfl⟩ hP hD hS hA 0 6 rfl rfl rfl [0, 1] [] rfl rfl (by decide) (by decide) hl.1 rfl (Nat.le_of_ble_eq_true rfl) d_Te_endOfToken_6 (fun _ H locs hw hP hD hS => ?_)
  subst hw
  replace hP : va_P G classes [(z, .inr (6, [.ref z_letters_a, .int z_length, .int z_kind, .int z_numbers, .int z_items, .int z_kindsTold])), (z_letters_a, .inl (cy 0, 120, .inl z_letters))] H := hP.sub [0, 1] rfl
  replace hD : va_D A [(z, .inr (6, [.ref z_letters_a, .int z_length, .int z_kind, .int z_numbers, .int z_items, .int z_kindsTold])), (z_letters_a, .inl (cy 0, 120, .inl z_letters))] := hD.sub [0, 1] (by decide) rfl
  refine lv_if_eq (tgt := 34) hx hb d_Te_endOfToken_9 (by decide) (fun hc2 => ?_) (fun hc2 => ?_)
  · replace hf := iteP hc2 hf
    refine lv_iload_n hx hb d_Te_endOfToken_34 rfl (lv_at hl 0 rfl) ?_
    obtain rfl := Option.some.inj hf
    exact W.iret hx hb hr (x_ret hP hD hS hBp) hS.2.2 d_Te_endOfToken_35
  · replace hf := iteN hc2 hf
    obtain ⟨z6, hz6, hf⟩ := obn hf
    have K3 : ∀ (H : Heap) (locs : List Loc), va_P G classes [(z, .inr (6, [.ref z_letters_a, .int z_length, .int z_kind, .int z_numbers, .int z_items, .int z_kindsTold])), (z_letters_a, .inl (cy 0, 120, .inl z_letters))] H → va_D A [(z, .inr (6, [.ref z_letters_a, .int z_length, .int z_kind, .int z_numbers, .int z_items, .int z_kindsTold])), (z_letters_a, .inl (cy 0, 120, .inl z_letters))] → va_S A s.heap H locs → ∀ (ls : Array Slot), lv_has ls 3 [(0, .ref z), (1, .int p0), (2, .int z6)] → W p l e (RM 3 0 0) s m ([.ref z, .int p0] : List Value).toArray below meth c H locs 0 0 (MQ below (CQ G (some (.int out)) Bp A) ([.ref z, .int p0] : List Value).toArray s 0 0 A) (F0 m 34 ls []) := by
      intro H locs hP hD hS ls hl
      refine lv_iload_n hx hb d_Te_endOfToken_34 rfl (lv_at hl 2 rfl) ?_
      obtain rfl := Option.some.inj hf
      exact W.iret hx hb hr (x_ret hP hD hS hBp) hS.2.2 d_Te_endOfToken_35
    clear hf
    have L5 : ∀ (n : Nat) (i2_12 : Int32), f_Te_endOfToken_L12 z_length z_letters n i2_12 = some z6 → ∀ (H : Heap) (locs : List Loc), va_P G classes [(z, .inr (6, [.ref z_letters_a, .int z_length, .int z_kind, .int z_numbers, .int z_items, .int z_kindsTold])), (z_letters_a, .inl (cy 0, 120, .inl z_letters))] H → va_D A [(z, .inr (6, [.ref z_letters_a, .int z_length, .int z_kind, .int z_numbers, .int z_items, .int z_kindsTold])), (z_letters_a, .inl (cy 0, 120, .inl z_letters))] → va_S A s.heap H locs → ∀ (ls : Array Slot), lv_has ls 3 [(0, .ref z), (1, .int p0), (2, .int i2_12)] → W p l e (RM 3 0 0) s m ([.ref z, .int p0] : List Value).toArray below meth c H locs 0 0 (MQ below (CQ G (some (.int out)) Bp A) ([.ref z, .int p0] : List Value).toArray s 0 0 A) (F0 m 12 ls []) := by
      intro n
      induction n with
      | zero => intro i2_12 hf; exact absurd ((f_Te_endOfToken_L12_z z_length z_letters i2_12).symm.trans hf) (by intro h; cases h)
      | succ n ih =>
        intro i2_12 hf H locs hP hD hS ls hl
        replace hf := (f_Te_endOfToken_L12_s z_length z_letters n i2_12).symm.trans hf
        refine lv_iload_n hx hb d_Te_endOfToken_12 rfl (lv_at hl 2 rfl) ?_
        refine lv_aload_n hx hb d_Te_endOfToken_13 rfl (lv_at hl 0 rfl) ?_
        refine va_get (D := G) (ci := 6) (v := .int z_length) (C := "YieldDesk$TellText") (T := F_Te) (N := 6) hx hb hB fi_Te hown hE.1 hP 0 rfl rfl 1 (by decide) (hB _ m_81) (fun _ h9 => h9) rfl d_Te_endOfToken_14 ?_
        refine lv_icmp_ge (tgt := 34) hx hb d_Te_endOfToken_17 (by decide) (fun hc7 => ?_) (fun hc7 => ?_)
        · replace hf := iteP hc7 hf
          obtain rfl := Option.some.inj hf
          exact K3 _ _ hP hD hS _ (lv_sub hl [0, 1, 2] rfl)
        · replace hf := iteN hc7 hf
          refine lv_aload_n hx hb d_Te_endOfToken_20 rfl (lv_at hl 0 rfl) ?_
          refine lv_iload_n hx hb d_Te_endOfToken_21 rfl (lv_at hl 2 rfl) ?_
          obtain ⟨z8, hz8, hf⟩ := obn hf
          refine x_V (As := [.int i2_12]) (rest := []) (wc := [(z, .inr (6, [.ref z_letters_a, .int z_length, .int z_kind, .int z_numbers, .int z_items, .int z_kindsTold])), (z_letters_a, .inl (cy 0, 120, .inl z_letters))]) (wr := []) (t_Te_isFigure l G cy kz N0  z z_length z_kind z_numbers z_items z_kindsTold z_letters_a z_letters i2_12 z8 hz8 (fun w => w = [(z, .inr (6, [.ref z_letters_a, .int z_length, .int z_kind, .int z_numbers, .int z_items, .int z_kindsTold])), (z_letters_a, .inl (cy 0, 120, .inl z_letters))]) rfl) hx hb hml hown hB hE hN hNA m_278 m_280 mS_Te_isFigure m_3 m_281 hdV_Te_isFigure ⟨Nat.le_of_ble_eq_true rfl, Nat.le_of_ble_eq_true rfl, Nat.le_of_ble_eq_true rfl, Nat.le_of_ble_eq_true rfl⟩ hP hD hS hA 0 6 rfl rfl rfl [0, 1] [] rfl rfl (by decide) (by decide) hl.1 rfl (Nat.le_of_ble_eq_true rfl) d_Te_endOfToken_22 (fun _ H locs hw hP hD hS => ?_)
          subst hw
          replace hP : va_P G classes [(z, .inr (6, [.ref z_letters_a, .int z_length, .int z_kind, .int z_numbers, .int z_items, .int z_kindsTold])), (z_letters_a, .inl (cy 0, 120, .inl z_letters))] H := hP.sub [0, 1] rfl
          replace hD : va_D A [(z, .inr (6, [.ref z_letters_a, .int z_length, .int z_kind, .int z_numbers, .int z_items, .int z_kindsTold])), (z_letters_a, .inl (cy 0, 120, .inl z_letters))] := hD.sub [0, 1] (by decide) rfl
          refine lv_if_eq (tgt := 34) hx hb d_Te_endOfToken_25 (by decide) (fun hc9 => ?_) (fun hc9 => ?_)
          · replace hf := iteP hc9 hf
            obtain rfl := Option.some.inj hf
            exact K3 _ _ hP hD hS _ (lv_sub hl [0, 1, 2] rfl)
          · replace hf := iteN hc9 hf
            refine lv_iinc (v := (i2_12 + (1 : Int32))) (lv' := [(2, .int (i2_12 + (1 : Int32))), (0, .ref z), (1, .int p0)]) hx hb d_Te_endOfToken_28 hl (k := 2) rfl rfl (by decide) rfl (fun ls hl => ?_)
            refine lv_goto (tgt := 12) hx hb d_Te_endOfToken_31 (by decide) ?_
            exact ih (i2_12 + (1 : Int32)) hf _ _ hP hD hS _ (lv_sub hl [1, 2, 0] rfl)
    exact L5 FU (p0 + (1 : Int32)) hz6 _ _ hP hD hS _ (lv_sub hl [1, 2, 0] rfl)
set_option maxHeartbeats 4000000 in
set_option maxRecDepth 100000 in
theorem t_Te_numberAt (l : Launch) (G : va_G) (cy : Nat → ClassId) (kz : Nat → Nat) (N0 : Nat) (z : Nat) (z_length : Int32) (z_kind : Int32) (z_numbers : Int32) (z_items : Int32) (z_kindsTold : Int32) (z_letters_a : Nat) (z_letters : Nat → Int32) (p0 : Int32) (p1 : Int32) (out : Int32) (h0 : f_Te_numberAt z_length z_letters p0 p1 = some out) (Bp : va_W → Prop) (hBp : Bp [(z, .inr (6, [.ref z_letters_a, .int z_length, .int z_kind, .int z_numbers, .int z_items, .int z_kindsTold])), (z_letters_a, .inl (cy 0, 120, .inl z_letters))]) : CT l G cy kz N0 y_Te_numberAt b_Te_numberAt 5 (some .int) 2 0 0 [.ref z, .int p0, .int p1] [(z, .inr (6, [.ref z_letters_a, .int z_length, .int z_kind, .int z_numbers, .int z_items, .int z_kindsTold])), (z_letters_a, .inl (cy 0, 120, .inl z_letters))] (some (.int out)) Bp := by
  refine CT.of (by decide) (Nat.le_of_ble_eq_true rfl) ?_
  intro p e s m below meth c A ls hx hb hr hml hB hown hlocks hnm hE hN hA hNA hP hD hS hl
  have hown : s.vm.findClass "YieldDesk$TellText" = some m.cls := hown
  have hl : lv_has ls 5 [(0, .ref z), (1, .int p0), (2, .int p1)] := hl
  have hf := h0
  unfold f_Te_numberAt at hf
  refine lv_aload_n hx hb d_Te_numberAt_0 rfl (lv_at hl 0 rfl) ?_
  refine lv_iload_n hx hb d_Te_numberAt_1 rfl (lv_at hl 1 rfl) ?_
  obtain ⟨z1, hz1, hf⟩ := obn hf
  refine x_V (As := [.int p0]) (rest := []) (wc := [(z, .inr (6, [.ref z_letters_a, .int z_length, .int z_kind, .int z_numbers, .int z_items, .int z_kindsTold])), (z_letters_a, .inl (cy 0, 120, .inl z_letters))]) (wr := []) (t_Te_letterAt l G cy kz N0  z z_length z_kind z_numbers z_items z_kindsTold z_letters_a z_letters p0 z1 hz1 (fun w => w = [(z, .inr (6, [.ref z_letters_a, .int z_length, .int z_kind, .int z_numbers, .int z_items, .int z_kindsTold])), (z_letters_a, .inl (cy 0, 120, .inl z_letters))]) rfl) hx hb hml hown hB hE hN hNA m_266 m_268 mS_Te_letterAt m_3 m_269 hdV_Te_letterAt ⟨Nat.le_of_ble_eq_true rfl, Nat.le_of_ble_eq_true rfl, Nat.le_of_ble_eq_true rfl, Nat.le_of_ble_eq_true rfl⟩ hP hD hS hA 0 6 rfl rfl rfl [0, 1] [] rfl rfl (by decide) (by decide) hl.1 rfl (Nat.le_of_ble_eq_true rfl) d_Te_numberAt_2 (fun _ H locs hw hP hD hS => ?_)
  subst hw
  replace hP : va_P G classes [(z, .inr (6, [.ref z_letters_a, .int z_length, .int z_kind, .int z_numbers, .int z_items, .int z_kindsTold])), (z_letters_a, .inl (cy 0, 120, .inl z_letters))] H := hP.sub [0, 1] rfl
  replace hD : va_D A [(z, .inr (6, [.ref z_letters_a, .int z_length, .int z_kind, .int z_numbers, .int z_items, .int z_kindsTold])), (z_letters_a, .inl (cy 0, 120, .inl z_letters))] := hD.sub [0, 1] (by decide) rfl
  refine lv_bipush (v := (48 : Int32)) hx hb d_Te_numberAt_5 (by decide) ?_
  refine lv_icmp_ne (tgt := 19) hx hb d_Te_numberAt_7 (by decide) (fun hc2 => ?_) (fun hc2 => ?_)
  · replace hf := iteN hc2 hf
    refine lv_iconst (v := (0 : Int32)) hx hb d_Te_numberAt_19 (by decide) ?_
    refine lv_istore_n (lv' := [(3, .int (0 : Int32)), (0, .ref z), (1, .int p0), (2, .int p1)]) hx hb d_Te_numberAt_20 rfl hl (by decide) rfl (fun ls hl => ?_)
    refine lv_iload_n hx hb d_Te_numberAt_21 rfl (lv_at hl 2 rfl) ?_
    refine lv_istore (lv' := [(4, .int p0), (3, .int (0 : Int32)), (0, .ref z), (1, .int p0), (2, .int p1)]) hx hb d_Te_numberAt_22 hl (by decide) rfl (fun ls hl => ?_)
    obtain ⟨z6, hz6, hf⟩ := obn hf
    have K3 : ∀ x7, z6 = .inl x7 → ∀ (H : Heap) (locs : List Loc), va_P G classes [(z, .inr (6, [.ref z_letters_a, .int z_length, .int z_kind, .int z_numbers, .int z_items, .int z_kindsTold])), (z_letters_a, .inl (cy 0, 120, .inl z_letters))] H → va_D A [(z, .inr (6, [.ref z_letters_a, .int z_length, .int z_kind, .int z_numbers, .int z_items, .int z_kindsTold])), (z_letters_a, .inl (cy 0, 120, .inl z_letters))] → va_S A s.heap H locs → ∀ (ls : Array Slot), lv_has ls 5 [(0, .ref z), (1, .int p0), (2, .int p1), (3, .int x7.1), (4, .int x7.2)] → W p l e (RM 2 0 0) s m ([.ref z, .int p0, .int p1] : List Value).toArray below meth c H locs 0 0 (MQ below (CQ G (some (.int out)) Bp A) ([.ref z, .int p0, .int p1] : List Value).toArray s 0 0 A) (F0 m 60 ls []) := by
      intro x7 ez6 H locs hP hD hS ls hl
      subst ez6
      replace hf := sml hf
      refine lv_iload_n hx hb d_Te_numberAt_60 rfl (lv_at hl 3 rfl) ?_
      obtain rfl := Option.some.inj hf
      exact W.iret hx hb hr (x_ret hP hD hS hBp) hS.2.2 d_Te_numberAt_61
    have K4 : ∀ r, z6 = .inr r → some r = some out := by
      intro r ez6
      subst ez6
      exact smr hf
    clear hf
    have L5 : ∀ (n : Nat) (i3_24 : Int32) (i4_24 : Int32), f_Te_numberAt_L24 z_length z_letters p1 n i3_24 i4_24 = some z6 → ∀ (H : Heap) (locs : List Loc), va_P G classes [(z, .inr (6, [.ref z_letters_a, .int z_length, .int z_kind, .int z_numbers, .int z_items, .int z_kindsTold])), (z_letters_a, .inl (cy 0, 120, .inl z_letters))] H → va_D A [(z, .inr (6, [.ref z_letters_a, .int z_length, .int z_kind, .int z_numbers, .int z_items, .int z_kindsTold])), (z_letters_a, .inl (cy 0, 120, .inl z_letters))] → va_S A s.heap H locs → ∀ (ls : Array Slot), lv_has ls 5 [(0, .ref z), (1, .int p0), (2, .int p1), (3, .int i3_24), (4, .int i4_24)] → W p l e (RM 2 0 0) s m ([.ref z, .int p0, .int p1] : List Value).toArray below meth c H locs 0 0 (MQ below (CQ G (some (.int out)) Bp A) ([.ref z, .int p0, .int p1] : List Value).toArray s 0 0 A) (F0 m 24 ls []) := by
      intro n
      induction n with
      | zero => intro i3_24 i4_24 hf; exact absurd ((f_Te_numberAt_L24_z z_length z_letters p1 i3_24 i4_24).symm.trans hf) (by intro h; cases h)
      | succ n ih =>
        intro i3_24 i4_24 hf H locs hP hD hS ls hl
        replace hf := (f_Te_numberAt_L24_s z_length z_letters p1 n i3_24 i4_24).symm.trans hf
        refine lv_iload hx hb d_Te_numberAt_24 (lv_at hl 4 rfl) ?_
        refine lv_iload_n hx hb d_Te_numberAt_26 rfl (lv_at hl 2 rfl) ?_
        refine lv_icmp_ge (tgt := 60) hx hb d_Te_numberAt_27 (by decide) (fun hc8 => ?_) (fun hc8 => ?_)
        · replace hf := iteP hc8 hf
          obtain rfl := Option.some.inj hf
          exact K3 _ rfl _ _ hP hD hS _ (lv_sub hl [0, 1, 2, 3, 4] rfl)
        · replace hf := iteN hc8 hf
          refine lv_iload_n hx hb d_Te_numberAt_30 rfl (lv_at hl 3 rfl) ?_
          refine lv_bipush (v := (10 : Int32)) hx hb d_Te_numberAt_31 (by decide) ?_
          refine lv_imul hx hb d_Te_numberAt_33 ?_
          refine lv_aload_n hx hb d_Te_numberAt_34 rfl (lv_at hl 0 rfl) ?_
          refine lv_iload hx hb d_Te_numberAt_35 (lv_at hl 4 rfl) ?_
          obtain ⟨z9, hz9, hf⟩ := obn hf
          refine x_V (As := [.int i4_24]) (rest := [.int (i3_24 * (10 : Int32))]) (wc := [(z, .inr (6, [.ref z_letters_a, .int z_length, .int z_kind, .int z_numbers, .int z_items, .int z_kindsTold])), (z_letters_a, .inl (cy 0, 120, .inl z_letters))]) (wr := []) (t_Te_letterAt l G cy kz N0  z z_length z_kind z_numbers z_items z_kindsTold z_letters_a z_letters i4_24 z9 hz9 (fun w => w = [(z, .inr (6, [.ref z_letters_a, .int z_length, .int z_kind, .int z_numbers, .int z_items, .int z_kindsTold])), (z_letters_a, .inl (cy 0, 120, .inl z_letters))]) rfl) hx hb hml hown hB hE hN hNA m_266 m_268 mS_Te_letterAt m_3 m_269 hdV_Te_letterAt ⟨Nat.le_of_ble_eq_true rfl, Nat.le_of_ble_eq_true rfl, Nat.le_of_ble_eq_true rfl, Nat.le_of_ble_eq_true rfl⟩ hP hD hS hA 0 6 rfl rfl rfl [0, 1] [] rfl rfl (by decide) (by decide) hl.1 rfl (Nat.le_of_ble_eq_true rfl) d_Te_numberAt_37 (fun _ H locs hw hP hD hS => ?_)
          subst hw
          replace hP : va_P G classes [(z, .inr (6, [.ref z_letters_a, .int z_length, .int z_kind, .int z_numbers, .int z_items, .int z_kindsTold])), (z_letters_a, .inl (cy 0, 120, .inl z_letters))] H := hP.sub [0, 1] rfl
          replace hD : va_D A [(z, .inr (6, [.ref z_letters_a, .int z_length, .int z_kind, .int z_numbers, .int z_items, .int z_kindsTold])), (z_letters_a, .inl (cy 0, 120, .inl z_letters))] := hD.sub [0, 1] (by decide) rfl
          refine lv_iadd hx hb d_Te_numberAt_40 ?_
          refine lv_bipush (v := (48 : Int32)) hx hb d_Te_numberAt_41 (by decide) ?_
          refine lv_isub hx hb d_Te_numberAt_43 ?_
          refine lv_istore_n (lv' := [(3, .int (((i3_24 * (10 : Int32)) + z9) - (48 : Int32))), (0, .ref z), (1, .int p0), (2, .int p1), (4, .int i4_24)]) hx hb d_Te_numberAt_44 rfl hl (by decide) rfl (fun ls hl => ?_)
          refine lv_iload_n hx hb d_Te_numberAt_45 rfl (lv_at hl 0 rfl) ?_
          refine lv_sipush (v := (999 : Int32)) hx hb d_Te_numberAt_46 (by decide) ?_
          refine lv_icmp_le (tgt := 54) hx hb d_Te_numberAt_49 (by decide) (fun hc10 => ?_) (fun hc10 => ?_)
          · replace hf := iteP hc10 hf
            refine lv_iinc (v := (i4_24 + (1 : Int32))) (lv' := [(4, .int (i4_24 + (1 : Int32))), (3, .int (((i3_24 * (10 : Int32)) + z9) - (48 : Int32))), (0, .ref z), (1, .int p0), (2, .int p1)]) hx hb d_Te_numberAt_54 hl (k := 4) rfl rfl (by decide) rfl (fun ls hl => ?_)
            refine lv_goto (tgt := 24) hx hb d_Te_numberAt_57 (by decide) ?_
            exact ih (((i3_24 * (10 : Int32)) + z9) - (48 : Int32)) (i4_24 + (1 : Int32)) hf _ _ hP hD hS _ (lv_sub hl [2, 3, 4, 1, 0] rfl)
          · replace hf := iteN hc10 hf
            refine lv_iconst (v := (-1 : Int32)) hx hb d_Te_numberAt_52 (by decide) ?_
            obtain rfl := Option.some.inj hf
            have hf := K4 _ rfl
            obtain rfl := Option.some.inj hf
            exact W.iret hx hb hr (x_ret hP hD hS hBp) hS.2.2 d_Te_numberAt_53
    exact L5 FU (0 : Int32) p0 hz6 _ _ hP hD hS _ (lv_sub hl [2, 3, 4, 1, 0] rfl)
  · replace hf := iteP hc2 hf
    refine lv_iload_n hx hb d_Te_numberAt_10 rfl (lv_at hl 2 rfl) ?_
    refine lv_iload_n hx hb d_Te_numberAt_11 rfl (lv_at hl 1 rfl) ?_
    refine lv_iconst (v := (1 : Int32)) hx hb d_Te_numberAt_12 (by decide) ?_
    refine lv_iadd hx hb d_Te_numberAt_13 ?_
    refine lv_icmp_le (tgt := 19) hx hb d_Te_numberAt_14 (by decide) (fun hc11 => ?_) (fun hc11 => ?_)
    · replace hf := iteP hc11 hf
      refine lv_iconst (v := (0 : Int32)) hx hb d_Te_numberAt_19 (by decide) ?_
      refine lv_istore_n (lv' := [(3, .int (0 : Int32)), (0, .ref z), (1, .int p0), (2, .int p1)]) hx hb d_Te_numberAt_20 rfl hl (by decide) rfl (fun ls hl => ?_)
      refine lv_iload_n hx hb d_Te_numberAt_21 rfl (lv_at hl 2 rfl) ?_
      refine lv_istore (lv' := [(4, .int p0), (3, .int (0 : Int32)), (0, .ref z), (1, .int p0), (2, .int p1)]) hx hb d_Te_numberAt_22 hl (by decide) rfl (fun ls hl => ?_)
      obtain ⟨z15, hz15, hf⟩ := obn hf
      have K12 : ∀ x16, z15 = .inl x16 → ∀ (H : Heap) (locs : List Loc), va_P G classes [(z, .inr (6, [.ref z_letters_a, .int z_length, .int z_kind, .int z_numbers, .int z_items, .int z_kindsTold])), (z_letters_a, .inl (cy 0, 120, .inl z_letters))] H → va_D A [(z, .inr (6, [.ref z_letters_a, .int z_length, .int z_kind, .int z_numbers, .int z_items, .int z_kindsTold])), (z_letters_a, .inl (cy 0, 120, .inl z_letters))] → va_S A s.heap H locs → ∀ (ls : Array Slot), lv_has ls 5 [(0, .ref z), (1, .int p0), (2, .int p1), (3, .int x16.1), (4, .int x16.2)] → W p l e (RM 2 0 0) s m ([.ref z, .int p0, .int p1] : List Value).toArray below meth c H locs 0 0 (MQ below (CQ G (some (.int out)) Bp A) ([.ref z, .int p0, .int p1] : List Value).toArray s 0 0 A) (F0 m 60 ls []) := by
        intro x16 ez15 H locs hP hD hS ls hl
        subst ez15
        replace hf := sml hf
        refine lv_iload_n hx hb d_Te_numberAt_60 rfl (lv_at hl 3 rfl) ?_
        obtain rfl := Option.some.inj hf
        exact W.iret hx hb hr (x_ret hP hD hS hBp) hS.2.2 d_Te_numberAt_61
      have K13 : ∀ r, z15 = .inr r → some r = some out := by
        intro r ez15
        subst ez15
        exact smr hf
      clear hf
      have L14 : ∀ (n : Nat) (i3_24 : Int32) (i4_24 : Int32), f_Te_numberAt_L24 z_length z_letters p1 n i3_24 i4_24 = some z15 → ∀ (H : Heap) (locs : List Loc), va_P G classes [(z, .inr (6, [.ref z_letters_a, .int z_length, .int z_kind, .int z_numbers, .int z_items, .int z_kindsTold])), (z_letters_a, .inl (cy 0, 120, .inl z_letters))] H → va_D A [(z, .inr (6, [.ref z_letters_a, .int z_length, .int z_kind, .int z_numbers, .int z_items, .int z_kindsTold])), (z_letters_a, .inl (cy 0, 120, .inl z_letters))] → va_S A s.heap H locs → ∀ (ls : Array Slot), lv_has ls 5 [(0, .ref z), (1, .int p0), (2, .int p1), (3, .int i3_24), (4, .int i4_24)] → W p l e (RM 2 0 0) s m ([.ref z, .int p0, .int p1] : List Value).toArray below meth c H locs 0 0 (MQ below (CQ G (some (.int out)) Bp A) ([.ref z, .int p0, .int p1] : List Value).toArray s 0 0 A) (F0 m 24 ls []) := by
        intro n
        induction n with
        | zero => intro i3_24 i4_24 hf; exact absurd ((f_Te_numberAt_L24_z z_length z_letters p1 i3_24 i4_24).symm.trans hf) (by intro h; cases h)
        | succ n ih =>
          intro i3_24 i4_24 hf H locs hP hD hS ls hl
          replace hf := (f_Te_numberAt_L24_s z_length z_letters p1 n i3_24 i4_24).symm.trans hf
          refine lv_iload hx hb d_Te_numberAt_24 (lv_at hl 4 rfl) ?_
          refine lv_iload_n hx hb d_Te_numberAt_26 rfl (lv_at hl 2 rfl) ?_
          refine lv_icmp_ge (tgt := 60) hx hb d_Te_numberAt_27 (by decide) (fun hc17 => ?_) (fun hc17 => ?_)
          · replace hf := iteP hc17 hf
            obtain rfl := Option.some.inj hf
            exact K12 _ rfl _ _ hP hD hS _ (lv_sub hl [0, 1, 2, 3, 4] rfl)
          · replace hf := iteN hc17 hf
            refine lv_iload_n hx hb d_Te_numberAt_30 rfl (lv_at hl 3 rfl) ?_
            refine lv_bipush (v := (10 : Int32)) hx hb d_Te_numberAt_31 (by decide) ?_
            refine lv_imul hx hb d_Te_numberAt_33 ?_
            refine lv_aload_n hx hb d_Te_numberAt_34 rfl (lv_at hl 0 rfl) ?_
            refine lv_iload hx hb d_Te_numberAt_35 (lv_at hl 4 rfl) ?_
            obtain ⟨z18, hz18, hf⟩ := obn hf
            refine x_V (As := [.int i4_24]) (rest := [.int (i3_24 * (10 : Int32))]) (wc := [(z, .inr (6, [.ref z_letters_a, .int z_length, .int z_kind, .int z_numbers, .int z_items, .int z_kindsTold])), (z_letters_a, .inl (cy 0, 120, .inl z_letters))]) (wr := []) (t_Te_letterAt l G cy kz N0  z z_length z_kind z_numbers z_items z_kindsTold z_letters_a z_letters i4_24 z18 hz18 (fun w => w = [(z, .inr (6, [.ref z_letters_a, .int z_length, .int z_kind, .int z_numbers, .int z_items, .int z_kindsTold])), (z_letters_a, .inl (cy 0, 120, .inl z_letters))]) rfl) hx hb hml hown hB hE hN hNA m_266 m_268 mS_Te_letterAt m_3 m_269 hdV_Te_letterAt ⟨Nat.le_of_ble_eq_true rfl, Nat.le_of_ble_eq_true rfl, Nat.le_of_ble_eq_true rfl, Nat.le_of_ble_eq_true rfl⟩ hP hD hS hA 0 6 rfl rfl rfl [0, 1] [] rfl rfl (by decide) (by decide) hl.1 rfl (Nat.le_of_ble_eq_true rfl) d_Te_numberAt_37 (fun _ H locs hw hP hD hS => ?_)
            subst hw
            replace hP : va_P G classes [(z, .inr (6, [.ref z_letters_a, .int z_length, .int z_kind, .int z_numbers, .int z_items, .int z_kindsTold])), (z_letters_a, .inl (cy 0, 120, .inl z_letters))] H := hP.sub [0, 1] rfl
            replace hD : va_D A [(z, .inr (6, [.ref z_letters_a, .int z_length, .int z_kind, .int z_numbers, .int z_items, .int z_kindsTold])), (z_letters_a, .inl (cy 0, 120, .inl z_letters))] := hD.sub [0, 1] (by decide) rfl
            refine lv_iadd hx hb d_Te_numberAt_40 ?_
            refine lv_bipush (v := (48 : Int32)) hx hb d_Te_numberAt_41 (by decide) ?_
            refine lv_isub hx hb d_Te_numberAt_43 ?_
            refine lv_istore_n (lv' := [(3, .int (((i3_24 * (10 : Int32)) + z18) - (48 : Int32))), (0, .ref z), (1, .int p0), (2, .int p1), (4, .int i4_24)]) hx hb d_Te_numberAt_44 rfl hl (by decide) rfl (fun ls hl => ?_)
            refine lv_iload_n hx hb d_Te_numberAt_45 rfl (lv_at hl 0 rfl) ?_
            refine lv_sipush (v := (999 : Int32)) hx hb d_Te_numberAt_46 (by decide) ?_
            refine lv_icmp_le (tgt := 54) hx hb d_Te_numberAt_49 (by decide) (fun hc19 => ?_) (fun hc19 => ?_)
            · replace hf := iteP hc19 hf
              refine lv_iinc (v := (i4_24 + (1 : Int32))) (lv' := [(4, .int (i4_24 + (1 : Int32))), (3, .int (((i3_24 * (10 : Int32)) + z18) - (48 : Int32))), (0, .ref z), (1, .int p0), (2, .int p1)]) hx hb d_Te_numberAt_54 hl (k := 4) rfl rfl (by decide) rfl (fun ls hl => ?_)
              refine lv_goto (tgt := 24) hx hb d_Te_numberAt_57 (by decide) ?_
              exact ih (((i3_24 * (10 : Int32)) + z18) - (48 : Int32)) (i4_24 + (1 : Int32)) hf _ _ hP hD hS _ (lv_sub hl [2, 3, 4, 1, 0] rfl)
            · replace hf := iteN hc19 hf
              refine lv_iconst (v := (-1 : Int32)) hx hb d_Te_numberAt_52 (by decide) ?_
              obtain rfl := Option.some.inj hf
              have hf := K13 _ rfl
              obtain rfl := Option.some.inj hf
              exact W.iret hx hb hr (x_ret hP hD hS hBp) hS.2.2 d_Te_numberAt_53
      exact L14 FU (0 : Int32) p0 hz15 _ _ hP hD hS _ (lv_sub hl [2, 3, 4, 1, 0] rfl)
    · replace hf := iteN hc11 hf
      refine lv_iconst (v := (-1 : Int32)) hx hb d_Te_numberAt_17 (by decide) ?_
      obtain rfl := Option.some.inj hf
      exact W.iret hx hb hr (x_ret hP hD hS hBp) hS.2.2 d_Te_numberAt_18
set_option maxHeartbeats 4000000 in
set_option maxRecDepth 100000 in
theorem t_Te_takesNumber (l : Launch) (G : va_G) (cy : Nat → ClassId) (kz : Nat → Nat) (N0 : Nat) (z : Nat) (z_length : Int32) (z_kind : Int32) (z_numbers : Int32) (z_items : Int32) (z_kindsTold : Int32) (z_letters_a : Nat) (z_letters : Nat → Int32) (p0 : Int32) (o1 : Nat) (o1_periods : Int32) (o1_draft : Int32) (o1_cap : Int32) (o1_time : Int32) (o1_volume : Int32) (o1_fails : Int32) (o1_lacking : Int32) (o1_spilt : Int32) (o1_inflows_a : Nat) (o1_inflows : Nat → Int32) (o1_losses_a : Nat) (o1_losses : Nat → Int32) (out : Int32 × Int32 × Int32 × Int32 × Int32 × (Nat → Int32) × (Nat → Int32)) (h0 : f_Te_takesNumber z_kind z_numbers p0 o1_periods o1_draft o1_cap o1_inflows o1_losses = some out) (Bp : va_W → Prop) (hBp : Bp [(z, .inr (6, [.ref z_letters_a, .int z_length, .int z_kind, .int out.2.1, .int z_items, .int z_kindsTold])), (z_letters_a, .inl (cy 0, 120, .inl z_letters)), (o1, .inr (0, [.ref o1_inflows_a, .ref o1_losses_a, .int out.2.2.1, .int out.2.2.2.1, .int out.2.2.2.2.1, .int o1_time, .int o1_volume, .int o1_fails, .int o1_lacking, .int o1_spilt])), (o1_inflows_a, .inl (cy 0, 12, .inl out.2.2.2.2.2.1)), (o1_losses_a, .inl (cy 0, 10, .inl out.2.2.2.2.2.2))]) : CT l G cy kz N0 y_Te_takesNumber b_Te_takesNumber 3 (some .boolean) 2 0 0 [.ref z, .int p0, .ref o1] [(z, .inr (6, [.ref z_letters_a, .int z_length, .int z_kind, .int z_numbers, .int z_items, .int z_kindsTold])), (z_letters_a, .inl (cy 0, 120, .inl z_letters)), (o1, .inr (0, [.ref o1_inflows_a, .ref o1_losses_a, .int o1_periods, .int o1_draft, .int o1_cap, .int o1_time, .int o1_volume, .int o1_fails, .int o1_lacking, .int o1_spilt])), (o1_inflows_a, .inl (cy 0, 12, .inl o1_inflows)), (o1_losses_a, .inl (cy 0, 10, .inl o1_losses))] (some (.int out.1)) Bp := by
  refine CT.of (by decide) (Nat.le_of_ble_eq_true rfl) ?_
  intro p e s m below meth c A ls hx hb hr hml hB hown hlocks hnm hE hN hA hNA hP hD hS hl
  have hown : s.vm.findClass "YieldDesk$TellText" = some m.cls := hown
  have hl : lv_has ls 3 [(0, .ref z), (1, .int p0), (2, .ref o1)] := hl
  have hf := h0
  unfold f_Te_takesNumber at hf
  refine lv_aload_n hx hb d_Te_takesNumber_0 rfl (lv_at hl 0 rfl) ?_
  refine va_get (D := G) (ci := 6) (v := .int z_kind) (C := "YieldDesk$TellText") (T := F_Te) (N := 6) hx hb hB fi_Te hown hE.1 hP 0 rfl rfl 2 (by decide) (hB _ m_83) (fun _ h9 => h9) rfl d_Te_takesNumber_1 ?_
  refine lv_if_lt (tgt := 23) hx hb d_Te_takesNumber_4 (by decide) (fun hc1 => ?_) (fun hc1 => ?_)
  · replace hf := iteP hc1 hf
    refine lv_iconst (v := (0 : Int32)) hx hb d_Te_takesNumber_23 (by decide) ?_
    obtain rfl := Option.some.inj hf
    exact W.zret (v := (0 : Int32)) hx hb hr (show narrow .boolean (.int (0 : Int32)) = .int (0 : Int32) from rfl) (x_ret hP hD hS hBp) hS.2.2 d_Te_takesNumber_24
  · replace hf := iteN hc1 hf
    refine lv_aload_n hx hb d_Te_takesNumber_7 rfl (lv_at hl 0 rfl) ?_
    refine va_get (D := G) (ci := 6) (v := .int z_kind) (C := "YieldDesk$TellText") (T := F_Te) (N := 6) hx hb hB fi_Te hown hE.1 hP 0 rfl rfl 2 (by decide) (hB _ m_83) (fun _ h9 => h9) rfl d_Te_takesNumber_8 ?_
    refine va_gets (v := .ref (kz 0)) hx hb (hE.2.2.2.1.1.narrow hNA) hS hown (hB _ m_294) (fun _ h9 => h9) d_Te_takesNumber_11 ?_
    refine va_tlen (v := (4 : Int32)) hx hb (hE.2.2.2.1.2.narrow hNA) hS rfl d_Te_takesNumber_14 ?_
    refine lv_icmp_ge (tgt := 23) hx hb d_Te_takesNumber_15 (by decide) (fun hc2 => ?_) (fun hc2 => ?_)
    · replace hf := iteP hc2 hf
      refine lv_iconst (v := (0 : Int32)) hx hb d_Te_takesNumber_23 (by decide) ?_
      obtain rfl := Option.some.inj hf
      exact W.zret (v := (0 : Int32)) hx hb hr (show narrow .boolean (.int (0 : Int32)) = .int (0 : Int32) from rfl) (x_ret hP hD hS hBp) hS.2.2 d_Te_takesNumber_24
    · replace hf := iteN hc2 hf
      refine lv_iload_n hx hb d_Te_takesNumber_18 rfl (lv_at hl 1 rfl) ?_
      refine lv_iconst (v := (-1 : Int32)) hx hb d_Te_takesNumber_19 (by decide) ?_
      refine lv_icmp_ne (tgt := 25) hx hb d_Te_takesNumber_20 (by decide) (fun hc3 => ?_) (fun hc3 => ?_)
      · replace hf := iteN hc3 hf
        refine lv_aload_n hx hb d_Te_takesNumber_25 rfl (lv_at hl 0 rfl) ?_
        refine va_get (D := G) (ci := 6) (v := .int z_numbers) (C := "YieldDesk$TellText") (T := F_Te) (N := 6) hx hb hB fi_Te hown hE.1 hP 0 rfl rfl 3 (by decide) (hB _ m_84) (fun _ h9 => h9) rfl d_Te_takesNumber_26 ?_
        refine va_gets (v := .ref (kz 2)) hx hb (hE.2.2.2.2.2.1.1.narrow hNA) hS hown (hB _ m_296) (fun _ h9 => h9) d_Te_takesNumber_29 ?_
        refine lv_aload_n hx hb d_Te_takesNumber_32 rfl (lv_at hl 0 rfl) ?_
        refine va_get (D := G) (ci := 6) (v := .int z_kind) (C := "YieldDesk$TellText") (T := F_Te) (N := 6) hx hb hB fi_Te hown hE.1 hP 0 rfl rfl 2 (by decide) (hB _ m_83) (fun _ h9 => h9) rfl d_Te_takesNumber_33 ?_
        obtain ⟨hg4, hf⟩ := gdn hf
        refine va_ti (v := .int (sM z_kind.toNatClampNeg)) hx hb (hE.2.2.2.2.2.1.2.narrow hNA) hS hg4 rfl d_Te_takesNumber_36 ?_
        refine lv_icmp_ge (tgt := 52) hx hb d_Te_takesNumber_37 (by decide) (fun hc5 => ?_) (fun hc5 => ?_)
        · replace hf := iteP hc5 hf
          refine lv_iconst (v := (0 : Int32)) hx hb d_Te_takesNumber_52 (by decide) ?_
          obtain rfl := Option.some.inj hf
          exact W.zret (v := (0 : Int32)) hx hb hr (show narrow .boolean (.int (0 : Int32)) = .int (0 : Int32) from rfl) (x_ret hP hD hS hBp) hS.2.2 d_Te_takesNumber_53
        · replace hf := iteN hc5 hf
          refine lv_iload_n hx hb d_Te_takesNumber_40 rfl (lv_at hl 1 rfl) ?_
          refine va_gets (v := .ref (kz 3)) hx hb (hE.2.2.2.2.2.2.1.narrow hNA) hS hown (hB _ m_298) (fun _ h9 => h9) d_Te_takesNumber_41 ?_
          refine lv_aload_n hx hb d_Te_takesNumber_44 rfl (lv_at hl 0 rfl) ?_
          refine va_get (D := G) (ci := 6) (v := .int z_kind) (C := "YieldDesk$TellText") (T := F_Te) (N := 6) hx hb hB fi_Te hown hE.1 hP 0 rfl rfl 2 (by decide) (hB _ m_83) (fun _ h9 => h9) rfl d_Te_takesNumber_45 ?_
          refine va_ti (v := .int (sG z_kind.toNatClampNeg)) hx hb (hE.2.2.2.2.2.2.2.narrow hNA) hS hg4 rfl d_Te_takesNumber_48 ?_
          refine lv_icmp_le (tgt := 54) hx hb d_Te_takesNumber_49 (by decide) (fun hc6 => ?_) (fun hc6 => ?_)
          · replace hf := iteP hc6 hf
            refine va_gets (v := .ref (kz 0)) hx hb (hE.2.2.2.1.1.narrow hNA) hS hown (hB _ m_294) (fun _ h9 => h9) d_Te_takesNumber_54 ?_
            refine lv_aload_n hx hb d_Te_takesNumber_57 rfl (lv_at hl 0 rfl) ?_
            refine va_get (D := G) (ci := 6) (v := .int z_kind) (C := "YieldDesk$TellText") (T := F_Te) (N := 6) hx hb hB fi_Te hown hE.1 hP 0 rfl rfl 2 (by decide) (hB _ m_83) (fun _ h9 => h9) rfl d_Te_takesNumber_58 ?_
            refine va_tc (v := .int (sK z_kind.toNatClampNeg)) hx hb (hE.2.2.2.1.2.narrow hNA) hS hg4 rfl d_Te_takesNumber_61 ?_
            by_cases hc7 : (sK z_kind.toNatClampNeg) = (99 : Int32)
            · replace hf := iteP hc7 hf
              refine lv_lookup (off := 54) (tgt := 116) hx hb d_Te_takesNumber_62 (by decide) (by rw [hc7]; rfl) (by decide) ?_
              refine lv_aload_n hx hb d_Te_takesNumber_116 rfl (lv_at hl 2 rfl) ?_
              refine lv_iload_n hx hb d_Te_takesNumber_117 rfl (lv_at hl 1 rfl) ?_
              refine va_putN (D := G) (ci := 0) (v := .int p0) (ty := .int) (C := "YieldDesk$Basin") (T := F_Ba) (N := 10) hx hb hB fi_Ba ft_Ba fo_Ba fn_Ba hown hE.1 hP hD hS 2 rfl rfl 4 (by decide) (va_Nw.use rfl (hE.2.1.1 _ (List.mem_of_getElem? (i := 7) rfl))) (fun _ h9 => h9) rfl (by decide +kernel) rfl rfl (Nat.le_of_ble_eq_true rfl) d_Te_takesNumber_118 (fun H locs hP hD hS => ?_)
              have hP : va_P G classes [(z, .inr (6, [.ref z_letters_a, .int z_length, .int z_kind, .int z_numbers, .int z_items, .int z_kindsTold])), (z_letters_a, .inl (cy 0, 120, .inl z_letters)), (o1, .inr (0, [.ref o1_inflows_a, .ref o1_losses_a, .int o1_periods, .int o1_draft, .int p0, .int o1_time, .int o1_volume, .int o1_fails, .int o1_lacking, .int o1_spilt])), (o1_inflows_a, .inl (cy 0, 12, .inl o1_inflows)), (o1_losses_a, .inl (cy 0, 10, .inl o1_losses))] H := hP
              have hD : va_D A [(z, .inr (6, [.ref z_letters_a, .int z_length, .int z_kind, .int z_numbers, .int z_items, .int z_kindsTold])), (z_letters_a, .inl (cy 0, 120, .inl z_letters)), (o1, .inr (0, [.ref o1_inflows_a, .ref o1_losses_a, .int o1_periods, .int o1_draft, .int p0, .int o1_time, .int o1_volume, .int o1_fails, .int o1_lacking, .int o1_spilt])), (o1_inflows_a, .inl (cy 0, 12, .inl o1_inflows)), (o1_losses_a, .inl (cy 0, 10, .inl o1_losses))] := hD
              refine lv_goto (tgt := 133) hx hb d_Te_takesNumber_121 (by decide) ?_
              refine lv_aload_n hx hb d_Te_takesNumber_133 rfl (lv_at hl 0 rfl) ?_
              refine lv_dup hx hb d_Te_takesNumber_134 rfl ?_
              refine va_get (D := G) (ci := 6) (v := .int z_numbers) (C := "YieldDesk$TellText") (T := F_Te) (N := 6) hx hb hB fi_Te hown hE.1 hP 0 rfl rfl 3 (by decide) (hB _ m_84) (fun _ h9 => h9) rfl d_Te_takesNumber_135 ?_
              refine lv_iconst (v := (1 : Int32)) hx hb d_Te_takesNumber_138 (by decide) ?_
              refine lv_iadd hx hb d_Te_takesNumber_139 ?_
              refine va_put (D := G) (ci := 6) (v := .int (z_numbers + (1 : Int32))) (ty := .int) (C := "YieldDesk$TellText") (T := F_Te) (N := 6) hx hb hB fi_Te ft_Te fo_Te fn_Te hown hE.1 hP hD hS 0 rfl rfl 3 (by decide) (hB _ m_84) (fun _ h9 => h9) rfl (by decide +kernel) rfl rfl (Nat.le_of_ble_eq_true rfl) d_Te_takesNumber_140 (fun H locs hP hD hS => ?_)
              have hP : va_P G classes [(z, .inr (6, [.ref z_letters_a, .int z_length, .int z_kind, .int (z_numbers + (1 : Int32)), .int z_items, .int z_kindsTold])), (z_letters_a, .inl (cy 0, 120, .inl z_letters)), (o1, .inr (0, [.ref o1_inflows_a, .ref o1_losses_a, .int o1_periods, .int o1_draft, .int p0, .int o1_time, .int o1_volume, .int o1_fails, .int o1_lacking, .int o1_spilt])), (o1_inflows_a, .inl (cy 0, 12, .inl o1_inflows)), (o1_losses_a, .inl (cy 0, 10, .inl o1_losses))] H := hP
              have hD : va_D A [(z, .inr (6, [.ref z_letters_a, .int z_length, .int z_kind, .int (z_numbers + (1 : Int32)), .int z_items, .int z_kindsTold])), (z_letters_a, .inl (cy 0, 120, .inl z_letters)), (o1, .inr (0, [.ref o1_inflows_a, .ref o1_losses_a, .int o1_periods, .int o1_draft, .int p0, .int o1_time, .int o1_volume, .int o1_fails, .int o1_lacking, .int o1_spilt])), (o1_inflows_a, .inl (cy 0, 12, .inl o1_inflows)), (o1_losses_a, .inl (cy 0, 10, .inl o1_losses))] := hD
              refine lv_iconst (v := (1 : Int32)) hx hb d_Te_takesNumber_143 (by decide) ?_
              obtain rfl := Option.some.inj hf
              exact W.zret (v := (1 : Int32)) hx hb hr (show narrow .boolean (.int (1 : Int32)) = .int (1 : Int32) from rfl) (x_ret hP hD hS hBp) hS.2.2 d_Te_takesNumber_144
            replace hf := iteN hc7 hf
            by_cases hc8 : (sK z_kind.toNatClampNeg) = (100 : Int32)
            · replace hf := iteP hc8 hf
              refine lv_lookup (off := 46) (tgt := 108) hx hb d_Te_takesNumber_62 (by decide) (by rw [hc8]; rfl) (by decide) ?_
              refine lv_aload_n hx hb d_Te_takesNumber_108 rfl (lv_at hl 2 rfl) ?_
              refine lv_iload_n hx hb d_Te_takesNumber_109 rfl (lv_at hl 1 rfl) ?_
              refine va_putN (D := G) (ci := 0) (v := .int p0) (ty := .int) (C := "YieldDesk$Basin") (T := F_Ba) (N := 10) hx hb hB fi_Ba ft_Ba fo_Ba fn_Ba hown hE.1 hP hD hS 2 rfl rfl 3 (by decide) (va_Nw.use rfl (hE.2.1.1 _ (List.mem_of_getElem? (i := 5) rfl))) (fun _ h9 => h9) rfl (by decide +kernel) rfl rfl (Nat.le_of_ble_eq_true rfl) d_Te_takesNumber_110 (fun H locs hP hD hS => ?_)
              have hP : va_P G classes [(z, .inr (6, [.ref z_letters_a, .int z_length, .int z_kind, .int z_numbers, .int z_items, .int z_kindsTold])), (z_letters_a, .inl (cy 0, 120, .inl z_letters)), (o1, .inr (0, [.ref o1_inflows_a, .ref o1_losses_a, .int o1_periods, .int p0, .int o1_cap, .int o1_time, .int o1_volume, .int o1_fails, .int o1_lacking, .int o1_spilt])), (o1_inflows_a, .inl (cy 0, 12, .inl o1_inflows)), (o1_losses_a, .inl (cy 0, 10, .inl o1_losses))] H := hP
              have hD : va_D A [(z, .inr (6, [.ref z_letters_a, .int z_length, .int z_kind, .int z_numbers, .int z_items, .int z_kindsTold])), (z_letters_a, .inl (cy 0, 120, .inl z_letters)), (o1, .inr (0, [.ref o1_inflows_a, .ref o1_losses_a, .int o1_periods, .int p0, .int o1_cap, .int o1_time, .int o1_volume, .int o1_fails, .int o1_lacking, .int o1_spilt])), (o1_inflows_a, .inl (cy 0, 12, .inl o1_inflows)), (o1_losses_a, .inl (cy 0, 10, .inl o1_losses))] := hD
              refine lv_goto (tgt := 133) hx hb d_Te_takesNumber_113 (by decide) ?_
              refine lv_aload_n hx hb d_Te_takesNumber_133 rfl (lv_at hl 0 rfl) ?_
              refine lv_dup hx hb d_Te_takesNumber_134 rfl ?_
              refine va_get (D := G) (ci := 6) (v := .int z_numbers) (C := "YieldDesk$TellText") (T := F_Te) (N := 6) hx hb hB fi_Te hown hE.1 hP 0 rfl rfl 3 (by decide) (hB _ m_84) (fun _ h9 => h9) rfl d_Te_takesNumber_135 ?_
              refine lv_iconst (v := (1 : Int32)) hx hb d_Te_takesNumber_138 (by decide) ?_
              refine lv_iadd hx hb d_Te_takesNumber_139 ?_
              refine va_put (D := G) (ci := 6) (v := .int (z_numbers + (1 : Int32))) (ty := .int) (C := "YieldDesk$TellText") (T := F_Te) (N := 6) hx hb hB fi_Te ft_Te fo_Te fn_Te hown hE.1 hP hD hS 0 rfl rfl 3 (by decide) (hB _ m_84) (fun _ h9 => h9) rfl (by decide +kernel) rfl rfl (Nat.le_of_ble_eq_true rfl) d_Te_takesNumber_140 (fun H locs hP hD hS => ?_)
              have hP : va_P G classes [(z, .inr (6, [.ref z_letters_a, .int z_length, .int z_kind, .int (z_numbers + (1 : Int32)), .int z_items, .int z_kindsTold])), (z_letters_a, .inl (cy 0, 120, .inl z_letters)), (o1, .inr (0, [.ref o1_inflows_a, .ref o1_losses_a, .int o1_periods, .int p0, .int o1_cap, .int o1_time, .int o1_volume, .int o1_fails, .int o1_lacking, .int o1_spilt])), (o1_inflows_a, .inl (cy 0, 12, .inl o1_inflows)), (o1_losses_a, .inl (cy 0, 10, .inl o1_losses))] H := hP
              have hD : va_D A [(z, .inr (6, [.ref z_letters_a, .int z_length, .int z_kind, .int (z_numbers + (1 : Int32)), .int z_items, .int z_kindsTold])), (z_letters_a, .inl (cy 0, 120, .inl z_letters)), (o1, .inr (0, [.ref o1_inflows_a, .ref o1_losses_a, .int o1_periods, .int p0, .int o1_cap, .int o1_time, .int o1_volume, .int o1_fails, .int o1_lacking, .int o1_spilt])), (o1_inflows_a, .inl (cy 0, 12, .inl o1_inflows)), (o1_losses_a, .inl (cy 0, 10, .inl o1_losses))] := hD
              refine lv_iconst (v := (1 : Int32)) hx hb d_Te_takesNumber_143 (by decide) ?_
              obtain rfl := Option.some.inj hf
              exact W.zret (v := (1 : Int32)) hx hb hr (show narrow .boolean (.int (1 : Int32)) = .int (1 : Int32) from rfl) (x_ret hP hD hS hBp) hS.2.2 d_Te_takesNumber_144
            replace hf := iteN hc8 hf
            by_cases hc9 : (sK z_kind.toNatClampNeg) = (105 : Int32)
            · replace hf := iteP hc9 hf
              refine lv_lookup (off := 34) (tgt := 96) hx hb d_Te_takesNumber_62 (by decide) (by rw [hc9]; rfl) (by decide) ?_
              refine lv_aload_n hx hb d_Te_takesNumber_96 rfl (lv_at hl 2 rfl) ?_
              refine lv_aload_n hx hb d_Te_takesNumber_97 rfl (lv_at hl 0 rfl) ?_
              refine va_get (D := G) (ci := 6) (v := .int z_numbers) (C := "YieldDesk$TellText") (T := F_Te) (N := 6) hx hb hB fi_Te hown hE.1 hP 0 rfl rfl 3 (by decide) (hB _ m_84) (fun _ h9 => h9) rfl d_Te_takesNumber_98 ?_
              refine lv_iload_n hx hb d_Te_takesNumber_101 rfl (lv_at hl 1 rfl) ?_
              obtain ⟨z10, hz10, hf⟩ := obn hf
              refine x_V (As := [.int z_numbers, .int p0]) (rest := []) (wc := [(o1, .inr (0, [.ref o1_inflows_a, .ref o1_losses_a, .int o1_periods, .int o1_draft, .int o1_cap, .int o1_time, .int o1_volume, .int o1_fails, .int o1_lacking, .int o1_spilt])), (o1_inflows_a, .inl (cy 0, 12, .inl o1_inflows)), (o1_losses_a, .inl (cy 0, 10, .inl o1_losses))]) (wr := [(z, .inr (6, [.ref z_letters_a, .int z_length, .int z_kind, .int z_numbers, .int z_items, .int z_kindsTold])), (z_letters_a, .inl (cy 0, 120, .inl z_letters))]) (t_Ba_addInflow l G cy kz N0  o1 o1_periods o1_draft o1_cap o1_time o1_volume o1_fails o1_lacking o1_spilt o1_inflows_a o1_inflows o1_losses_a o1_losses z_numbers p0 z10 hz10 (fun w => w = [(o1, .inr (0, [.ref o1_inflows_a, .ref o1_losses_a, .int z10.1, .int o1_draft, .int o1_cap, .int o1_time, .int o1_volume, .int o1_fails, .int o1_lacking, .int o1_spilt])), (o1_inflows_a, .inl (cy 0, 12, .inl z10.2)), (o1_losses_a, .inl (cy 0, 10, .inl o1_losses))]) rfl) hx hb hml hown hB hE hN hNA m_300 m_301 m_302 m_2 m_303 hdV_Ba_addInflow ⟨Nat.le_of_ble_eq_true rfl, Nat.le_of_ble_eq_true rfl, Nat.le_of_ble_eq_true rfl, Nat.le_of_ble_eq_true rfl⟩ hP hD hS hA 2 0 rfl rfl rfl [2, 3, 4] [0, 1] rfl rfl (by decide) (by decide) hl.1 rfl (Nat.le_of_ble_eq_true rfl) d_Te_takesNumber_102 (fun _ H locs hw hP hD hS => ?_)
              subst hw
              replace hP : va_P G classes [(z, .inr (6, [.ref z_letters_a, .int z_length, .int z_kind, .int z_numbers, .int z_items, .int z_kindsTold])), (z_letters_a, .inl (cy 0, 120, .inl z_letters)), (o1, .inr (0, [.ref o1_inflows_a, .ref o1_losses_a, .int z10.1, .int o1_draft, .int o1_cap, .int o1_time, .int o1_volume, .int o1_fails, .int o1_lacking, .int o1_spilt])), (o1_inflows_a, .inl (cy 0, 12, .inl z10.2)), (o1_losses_a, .inl (cy 0, 10, .inl o1_losses))] H := hP.sub [0, 1, 2, 3, 4] rfl
              replace hD : va_D A [(z, .inr (6, [.ref z_letters_a, .int z_length, .int z_kind, .int z_numbers, .int z_items, .int z_kindsTold])), (z_letters_a, .inl (cy 0, 120, .inl z_letters)), (o1, .inr (0, [.ref o1_inflows_a, .ref o1_losses_a, .int z10.1, .int o1_draft, .int o1_cap, .int o1_time, .int o1_volume, .int o1_fails, .int o1_lacking, .int o1_spilt])), (o1_inflows_a, .inl (cy 0, 12, .inl z10.2)), (o1_losses_a, .inl (cy 0, 10, .inl o1_losses))] := hD.sub [0, 1, 2, 3, 4] (by decide) rfl
              refine lv_goto (tgt := 133) hx hb d_Te_takesNumber_105 (by decide) ?_
              refine lv_aload_n hx hb d_Te_takesNumber_133 rfl (lv_at hl 0 rfl) ?_
              refine lv_dup hx hb d_Te_takesNumber_134 rfl ?_
              refine va_get (D := G) (ci := 6) (v := .int z_numbers) (C := "YieldDesk$TellText") (T := F_Te) (N := 6) hx hb hB fi_Te hown hE.1 hP 0 rfl rfl 3 (by decide) (hB _ m_84) (fun _ h9 => h9) rfl d_Te_takesNumber_135 ?_
              refine lv_iconst (v := (1 : Int32)) hx hb d_Te_takesNumber_138 (by decide) ?_
              refine lv_iadd hx hb d_Te_takesNumber_139 ?_
              refine va_put (D := G) (ci := 6) (v := .int (z_numbers + (1 : Int32))) (ty := .int) (C := "YieldDesk$TellText") (T := F_Te) (N := 6) hx hb hB fi_Te ft_Te fo_Te fn_Te hown hE.1 hP hD hS 0 rfl rfl 3 (by decide) (hB _ m_84) (fun _ h9 => h9) rfl (by decide +kernel) rfl rfl (Nat.le_of_ble_eq_true rfl) d_Te_takesNumber_140 (fun H locs hP hD hS => ?_)
              have hP : va_P G classes [(z, .inr (6, [.ref z_letters_a, .int z_length, .int z_kind, .int (z_numbers + (1 : Int32)), .int z_items, .int z_kindsTold])), (z_letters_a, .inl (cy 0, 120, .inl z_letters)), (o1, .inr (0, [.ref o1_inflows_a, .ref o1_losses_a, .int z10.1, .int o1_draft, .int o1_cap, .int o1_time, .int o1_volume, .int o1_fails, .int o1_lacking, .int o1_spilt])), (o1_inflows_a, .inl (cy 0, 12, .inl z10.2)), (o1_losses_a, .inl (cy 0, 10, .inl o1_losses))] H := hP
              have hD : va_D A [(z, .inr (6, [.ref z_letters_a, .int z_length, .int z_kind, .int (z_numbers + (1 : Int32)), .int z_items, .int z_kindsTold])), (z_letters_a, .inl (cy 0, 120, .inl z_letters)), (o1, .inr (0, [.ref o1_inflows_a, .ref o1_losses_a, .int z10.1, .int o1_draft, .int o1_cap, .int o1_time, .int o1_volume, .int o1_fails, .int o1_lacking, .int o1_spilt])), (o1_inflows_a, .inl (cy 0, 12, .inl z10.2)), (o1_losses_a, .inl (cy 0, 10, .inl o1_losses))] := hD
              refine lv_iconst (v := (1 : Int32)) hx hb d_Te_takesNumber_143 (by decide) ?_
              obtain rfl := Option.some.inj hf
              exact W.zret (v := (1 : Int32)) hx hb hr (show narrow .boolean (.int (1 : Int32)) = .int (1 : Int32) from rfl) (x_ret hP hD hS hBp) hS.2.2 d_Te_takesNumber_144
            replace hf := iteN hc9 hf
            refine lv_lookup (off := 62) (tgt := 124) hx hb d_Te_takesNumber_62 (by decide) ((lv_osw hc7 rfl).trans ((lv_osw hc8 rfl).trans ((lv_osw hc9 rfl).trans (rfl)))) (by decide) ?_
            refine lv_aload_n hx hb d_Te_takesNumber_124 rfl (lv_at hl 2 rfl) ?_
            refine lv_aload_n hx hb d_Te_takesNumber_125 rfl (lv_at hl 0 rfl) ?_
            refine va_get (D := G) (ci := 6) (v := .int z_numbers) (C := "YieldDesk$TellText") (T := F_Te) (N := 6) hx hb hB fi_Te hown hE.1 hP 0 rfl rfl 3 (by decide) (hB _ m_84) (fun _ h9 => h9) rfl d_Te_takesNumber_126 ?_
            refine lv_iload_n hx hb d_Te_takesNumber_129 rfl (lv_at hl 1 rfl) ?_
            obtain ⟨z11, hz11, hf⟩ := obn hf
            refine x_V (As := [.int z_numbers, .int p0]) (rest := []) (wc := [(o1, .inr (0, [.ref o1_inflows_a, .ref o1_losses_a, .int o1_periods, .int o1_draft, .int o1_cap, .int o1_time, .int o1_volume, .int o1_fails, .int o1_lacking, .int o1_spilt])), (o1_inflows_a, .inl (cy 0, 12, .inl o1_inflows)), (o1_losses_a, .inl (cy 0, 10, .inl o1_losses))]) (wr := [(z, .inr (6, [.ref z_letters_a, .int z_length, .int z_kind, .int z_numbers, .int z_items, .int z_kindsTold])), (z_letters_a, .inl (cy 0, 120, .inl z_letters))]) (t_Ba_changeLoss l G cy kz N0  o1 o1_periods o1_draft o1_cap o1_time o1_volume o1_fails o1_lacking o1_spilt o1_inflows_a o1_inflows o1_losses_a o1_losses z_numbers p0 z11 hz11 (fun w => w = [(o1, .inr (0, [.ref o1_inflows_a, .ref o1_losses_a, .int o1_periods, .int o1_draft, .int o1_cap, .int o1_time, .int o1_volume, .int o1_fails, .int o1_lacking, .int o1_spilt])), (o1_inflows_a, .inl (cy 0, 12, .inl o1_inflows)), (o1_losses_a, .inl (cy 0, 10, .inl z11))]) rfl) hx hb hml hown hB hE hN hNA m_305 m_306 m_307 m_2 m_308 hdV_Ba_changeLoss ⟨Nat.le_of_ble_eq_true rfl, Nat.le_of_ble_eq_true rfl, Nat.le_of_ble_eq_true rfl, Nat.le_of_ble_eq_true rfl⟩ hP hD hS hA 2 0 rfl rfl rfl [2, 3, 4] [0, 1] rfl rfl (by decide) (by decide) hl.1 rfl (Nat.le_of_ble_eq_true rfl) d_Te_takesNumber_130 (fun _ H locs hw hP hD hS => ?_)
            subst hw
            replace hP : va_P G classes [(z, .inr (6, [.ref z_letters_a, .int z_length, .int z_kind, .int z_numbers, .int z_items, .int z_kindsTold])), (z_letters_a, .inl (cy 0, 120, .inl z_letters)), (o1, .inr (0, [.ref o1_inflows_a, .ref o1_losses_a, .int o1_periods, .int o1_draft, .int o1_cap, .int o1_time, .int o1_volume, .int o1_fails, .int o1_lacking, .int o1_spilt])), (o1_inflows_a, .inl (cy 0, 12, .inl o1_inflows)), (o1_losses_a, .inl (cy 0, 10, .inl z11))] H := hP.sub [0, 1, 2, 3, 4] rfl
            replace hD : va_D A [(z, .inr (6, [.ref z_letters_a, .int z_length, .int z_kind, .int z_numbers, .int z_items, .int z_kindsTold])), (z_letters_a, .inl (cy 0, 120, .inl z_letters)), (o1, .inr (0, [.ref o1_inflows_a, .ref o1_losses_a, .int o1_periods, .int o1_draft, .int o1_cap, .int o1_time, .int o1_volume, .int o1_fails, .int o1_lacking, .int o1_spilt])), (o1_inflows_a, .inl (cy 0, 12, .inl o1_inflows)), (o1_losses_a, .inl (cy 0, 10, .inl z11))] := hD.sub [0, 1, 2, 3, 4] (by decide) rfl
            refine lv_aload_n hx hb d_Te_takesNumber_133 rfl (lv_at hl 0 rfl) ?_
            refine lv_dup hx hb d_Te_takesNumber_134 rfl ?_
            refine va_get (D := G) (ci := 6) (v := .int z_numbers) (C := "YieldDesk$TellText") (T := F_Te) (N := 6) hx hb hB fi_Te hown hE.1 hP 0 rfl rfl 3 (by decide) (hB _ m_84) (fun _ h9 => h9) rfl d_Te_takesNumber_135 ?_
            refine lv_iconst (v := (1 : Int32)) hx hb d_Te_takesNumber_138 (by decide) ?_
            refine lv_iadd hx hb d_Te_takesNumber_139 ?_
            refine va_put (D := G) (ci := 6) (v := .int (z_numbers + (1 : Int32))) (ty := .int) (C := "YieldDesk$TellText") (T := F_Te) (N := 6) hx hb hB fi_Te ft_Te fo_Te fn_Te hown hE.1 hP hD hS 0 rfl rfl 3 (by decide) (hB _ m_84) (fun _ h9 => h9) rfl (by decide +kernel) rfl rfl (Nat.le_of_ble_eq_true rfl) d_Te_takesNumber_140 (fun H locs hP hD hS => ?_)
            have hP : va_P G classes [(z, .inr (6, [.ref z_letters_a, .int z_length, .int z_kind, .int (z_numbers + (1 : Int32)), .int z_items, .int z_kindsTold])), (z_letters_a, .inl (cy 0, 120, .inl z_letters)), (o1, .inr (0, [.ref o1_inflows_a, .ref o1_losses_a, .int o1_periods, .int o1_draft, .int o1_cap, .int o1_time, .int o1_volume, .int o1_fails, .int o1_lacking, .int o1_spilt])), (o1_inflows_a, .inl (cy 0, 12, .inl o1_inflows)), (o1_losses_a, .inl (cy 0, 10, .inl z11))] H := hP
            have hD : va_D A [(z, .inr (6, [.ref z_letters_a, .int z_length, .int z_kind, .int (z_numbers + (1 : Int32)), .int z_items, .int z_kindsTold])), (z_letters_a, .inl (cy 0, 120, .inl z_letters)), (o1, .inr (0, [.ref o1_inflows_a, .ref o1_losses_a, .int o1_periods, .int o1_draft, .int o1_cap, .int o1_time, .int o1_volume, .int o1_fails, .int o1_lacking, .int o1_spilt])), (o1_inflows_a, .inl (cy 0, 12, .inl o1_inflows)), (o1_losses_a, .inl (cy 0, 10, .inl z11))] := hD
            refine lv_iconst (v := (1 : Int32)) hx hb d_Te_takesNumber_143 (by decide) ?_
            obtain rfl := Option.some.inj hf
            exact W.zret (v := (1 : Int32)) hx hb hr (show narrow .boolean (.int (1 : Int32)) = .int (1 : Int32) from rfl) (x_ret hP hD hS hBp) hS.2.2 d_Te_takesNumber_144
          · replace hf := iteN hc6 hf
            refine lv_iconst (v := (0 : Int32)) hx hb d_Te_takesNumber_52 (by decide) ?_
            obtain rfl := Option.some.inj hf
            exact W.zret (v := (0 : Int32)) hx hb hr (show narrow .boolean (.int (0 : Int32)) = .int (0 : Int32) from rfl) (x_ret hP hD hS hBp) hS.2.2 d_Te_takesNumber_53
      · replace hf := iteP hc3 hf
        refine lv_iconst (v := (0 : Int32)) hx hb d_Te_takesNumber_23 (by decide) ?_
        obtain rfl := Option.some.inj hf
        exact W.zret (v := (0 : Int32)) hx hb hr (show narrow .boolean (.int (0 : Int32)) = .int (0 : Int32) from rfl) (x_ret hP hD hS hBp) hS.2.2 d_Te_takesNumber_24
set_option maxHeartbeats 4000000 in
set_option maxRecDepth 100000 in
theorem t_Te_takesEnd (l : Launch) (G : va_G) (cy : Nat → ClassId) (kz : Nat → Nat) (N0 : Nat) (z : Nat) (z_length : Int32) (z_kind : Int32) (z_numbers : Int32) (z_items : Int32) (z_kindsTold : Int32) (z_letters_a : Nat) (z_letters : Nat → Int32) (out : Int32 × Int32 × Int32) (h0 : f_Te_takesEnd z_kind z_numbers z_items = some out) (Bp : va_W → Prop) (hBp : Bp [(z, .inr (6, [.ref z_letters_a, .int z_length, .int out.2.1, .int z_numbers, .int out.2.2, .int z_kindsTold])), (z_letters_a, .inl (cy 0, 120, .inl z_letters))]) : CT l G cy kz N0 y_Te_takesEnd b_Te_takesEnd 1 (some .boolean) 0 0 0 [.ref z] [(z, .inr (6, [.ref z_letters_a, .int z_length, .int z_kind, .int z_numbers, .int z_items, .int z_kindsTold])), (z_letters_a, .inl (cy 0, 120, .inl z_letters))] (some (.int out.1)) Bp := by
  refine CT.of (by decide) (Nat.le_of_ble_eq_true rfl) ?_
  intro p e s m below meth c A ls hx hb hr hml hB hown hlocks hnm hE hN hA hNA hP hD hS hl
  have hown : s.vm.findClass "YieldDesk$TellText" = some m.cls := hown
  have hl : lv_has ls 1 [(0, .ref z)] := hl
  have hf := h0
  unfold f_Te_takesEnd at hf
  refine lv_aload_n hx hb d_Te_takesEnd_0 rfl (lv_at hl 0 rfl) ?_
  refine va_get (D := G) (ci := 6) (v := .int z_kind) (C := "YieldDesk$TellText") (T := F_Te) (N := 6) hx hb hB fi_Te hown hE.1 hP 0 rfl rfl 2 (by decide) (hB _ m_83) (fun _ h9 => h9) rfl d_Te_takesEnd_1 ?_
  refine lv_if_lt (tgt := 33) hx hb d_Te_takesEnd_4 (by decide) (fun hc1 => ?_) (fun hc1 => ?_)
  · replace hf := iteP hc1 hf
    refine lv_iconst (v := (0 : Int32)) hx hb d_Te_takesEnd_33 (by decide) ?_
    obtain rfl := Option.some.inj hf
    exact W.zret (v := (0 : Int32)) hx hb hr (show narrow .boolean (.int (0 : Int32)) = .int (0 : Int32) from rfl) (x_ret hP hD hS hBp) hS.2.2 d_Te_takesEnd_34
  · replace hf := iteN hc1 hf
    refine lv_aload_n hx hb d_Te_takesEnd_7 rfl (lv_at hl 0 rfl) ?_
    refine va_get (D := G) (ci := 6) (v := .int z_kind) (C := "YieldDesk$TellText") (T := F_Te) (N := 6) hx hb hB fi_Te hown hE.1 hP 0 rfl rfl 2 (by decide) (hB _ m_83) (fun _ h9 => h9) rfl d_Te_takesEnd_8 ?_
    refine va_gets (v := .ref (kz 0)) hx hb (hE.2.2.2.1.1.narrow hNA) hS hown (hB _ m_294) (fun _ h9 => h9) d_Te_takesEnd_11 ?_
    refine va_tlen (v := (4 : Int32)) hx hb (hE.2.2.2.1.2.narrow hNA) hS rfl d_Te_takesEnd_14 ?_
    refine lv_icmp_ge (tgt := 33) hx hb d_Te_takesEnd_15 (by decide) (fun hc2 => ?_) (fun hc2 => ?_)
    · replace hf := iteP hc2 hf
      refine lv_iconst (v := (0 : Int32)) hx hb d_Te_takesEnd_33 (by decide) ?_
      obtain rfl := Option.some.inj hf
      exact W.zret (v := (0 : Int32)) hx hb hr (show narrow .boolean (.int (0 : Int32)) = .int (0 : Int32) from rfl) (x_ret hP hD hS hBp) hS.2.2 d_Te_takesEnd_34
    · replace hf := iteN hc2 hf
      refine lv_aload_n hx hb d_Te_takesEnd_18 rfl (lv_at hl 0 rfl) ?_
      refine va_get (D := G) (ci := 6) (v := .int z_numbers) (C := "YieldDesk$TellText") (T := F_Te) (N := 6) hx hb hB fi_Te hown hE.1 hP 0 rfl rfl 3 (by decide) (hB _ m_84) (fun _ h9 => h9) rfl d_Te_takesEnd_19 ?_
      refine va_gets (v := .ref (kz 1)) hx hb (hE.2.2.2.2.1.1.narrow hNA) hS hown (hB _ m_313) (fun _ h9 => h9) d_Te_takesEnd_22 ?_
      refine lv_aload_n hx hb d_Te_takesEnd_25 rfl (lv_at hl 0 rfl) ?_
      refine va_get (D := G) (ci := 6) (v := .int z_kind) (C := "YieldDesk$TellText") (T := F_Te) (N := 6) hx hb hB fi_Te hown hE.1 hP 0 rfl rfl 2 (by decide) (hB _ m_83) (fun _ h9 => h9) rfl d_Te_takesEnd_26 ?_
      obtain ⟨hg3, hf⟩ := gdn hf
      refine va_ti (v := .int (sF z_kind.toNatClampNeg)) hx hb (hE.2.2.2.2.1.2.narrow hNA) hS hg3 rfl d_Te_takesEnd_29 ?_
      refine lv_icmp_ge (tgt := 35) hx hb d_Te_takesEnd_30 (by decide) (fun hc4 => ?_) (fun hc4 => ?_)
      · replace hf := iteP hc4 hf
        refine lv_aload_n hx hb d_Te_takesEnd_35 rfl (lv_at hl 0 rfl) ?_
        refine lv_iconst (v := (-1 : Int32)) hx hb d_Te_takesEnd_36 (by decide) ?_
        refine va_put (D := G) (ci := 6) (v := .int (-1 : Int32)) (ty := .int) (C := "YieldDesk$TellText") (T := F_Te) (N := 6) hx hb hB fi_Te ft_Te fo_Te fn_Te hown hE.1 hP hD hS 0 rfl rfl 2 (by decide) (hB _ m_83) (fun _ h9 => h9) rfl (by decide +kernel) rfl rfl (Nat.le_of_ble_eq_true rfl) d_Te_takesEnd_37 (fun H locs hP hD hS => ?_)
        have hP : va_P G classes [(z, .inr (6, [.ref z_letters_a, .int z_length, .int (-1 : Int32), .int z_numbers, .int z_items, .int z_kindsTold])), (z_letters_a, .inl (cy 0, 120, .inl z_letters))] H := hP
        have hD : va_D A [(z, .inr (6, [.ref z_letters_a, .int z_length, .int (-1 : Int32), .int z_numbers, .int z_items, .int z_kindsTold])), (z_letters_a, .inl (cy 0, 120, .inl z_letters))] := hD
        refine lv_aload_n hx hb d_Te_takesEnd_40 rfl (lv_at hl 0 rfl) ?_
        refine lv_dup hx hb d_Te_takesEnd_41 rfl ?_
        refine va_get (D := G) (ci := 6) (v := .int z_items) (C := "YieldDesk$TellText") (T := F_Te) (N := 6) hx hb hB fi_Te hown hE.1 hP 0 rfl rfl 4 (by decide) (hB _ m_85) (fun _ h9 => h9) rfl d_Te_takesEnd_42 ?_
        refine lv_iconst (v := (1 : Int32)) hx hb d_Te_takesEnd_45 (by decide) ?_
        refine lv_iadd hx hb d_Te_takesEnd_46 ?_
        refine va_put (D := G) (ci := 6) (v := .int (z_items + (1 : Int32))) (ty := .int) (C := "YieldDesk$TellText") (T := F_Te) (N := 6) hx hb hB fi_Te ft_Te fo_Te fn_Te hown hE.1 hP hD hS 0 rfl rfl 4 (by decide) (hB _ m_85) (fun _ h9 => h9) rfl (by decide +kernel) rfl rfl (Nat.le_of_ble_eq_true rfl) d_Te_takesEnd_47 (fun H locs hP hD hS => ?_)
        have hP : va_P G classes [(z, .inr (6, [.ref z_letters_a, .int z_length, .int (-1 : Int32), .int z_numbers, .int (z_items + (1 : Int32)), .int z_kindsTold])), (z_letters_a, .inl (cy 0, 120, .inl z_letters))] H := hP
        have hD : va_D A [(z, .inr (6, [.ref z_letters_a, .int z_length, .int (-1 : Int32), .int z_numbers, .int (z_items + (1 : Int32)), .int z_kindsTold])), (z_letters_a, .inl (cy 0, 120, .inl z_letters))] := hD
        refine lv_iconst (v := (1 : Int32)) hx hb d_Te_takesEnd_50 (by decide) ?_
        obtain rfl := Option.some.inj hf
        exact W.zret (v := (1 : Int32)) hx hb hr (show narrow .boolean (.int (1 : Int32)) = .int (1 : Int32) from rfl) (x_ret hP hD hS hBp) hS.2.2 d_Te_takesEnd_51
      · replace hf := iteN hc4 hf
        refine lv_iconst (v := (0 : Int32)) hx hb d_Te_takesEnd_33 (by decide) ?_
        obtain rfl := Option.some.inj hf
        exact W.zret (v := (0 : Int32)) hx hb hr (show narrow .boolean (.int (0 : Int32)) = .int (0 : Int32) from rfl) (x_ret hP hD hS hBp) hS.2.2 d_Te_takesEnd_34
set_option maxHeartbeats 4000000 in
set_option maxRecDepth 100000 in
theorem t_Te_takesKind (l : Launch) (G : va_G) (cy : Nat → ClassId) (kz : Nat → Nat) (N0 : Nat) (z : Nat) (z_length : Int32) (z_kind : Int32) (z_numbers : Int32) (z_items : Int32) (z_kindsTold : Int32) (z_letters_a : Nat) (z_letters : Nat → Int32) (p0 : Int32) (out : Int32 × Int32 × Int32 × Int32) (h0 : f_Te_takesKind z_kind z_numbers z_kindsTold p0 = some out) (Bp : va_W → Prop) (hBp : Bp [(z, .inr (6, [.ref z_letters_a, .int z_length, .int out.2.1, .int out.2.2.1, .int z_items, .int out.2.2.2])), (z_letters_a, .inl (cy 0, 120, .inl z_letters))]) : CT l G cy kz N0 y_Te_takesKind b_Te_takesKind 3 (some .boolean) 0 0 0 [.ref z, .int p0] [(z, .inr (6, [.ref z_letters_a, .int z_length, .int z_kind, .int z_numbers, .int z_items, .int z_kindsTold])), (z_letters_a, .inl (cy 0, 120, .inl z_letters))] (some (.int out.1)) Bp := by
  refine CT.of (by decide) (Nat.le_of_ble_eq_true rfl) ?_
  intro p e s m below meth c A ls hx hb hr hml hB hown hlocks hnm hE hN hA hNA hP hD hS hl
  have hown : s.vm.findClass "YieldDesk$TellText" = some m.cls := hown
  have hl : lv_has ls 3 [(0, .ref z), (1, .int p0)] := hl
  have hf := h0
  unfold f_Te_takesKind at hf
  refine lv_aload_n hx hb d_Te_takesKind_0 rfl (lv_at hl 0 rfl) ?_
  refine va_get (D := G) (ci := 6) (v := .int z_kind) (C := "YieldDesk$TellText") (T := F_Te) (N := 6) hx hb hB fi_Te hown hE.1 hP 0 rfl rfl 2 (by decide) (hB _ m_83) (fun _ h9 => h9) rfl d_Te_takesKind_1 ?_
  refine lv_iconst (v := (-1 : Int32)) hx hb d_Te_takesKind_4 (by decide) ?_
  refine lv_icmp_eq (tgt := 10) hx hb d_Te_takesKind_5 (by decide) (fun hc1 => ?_) (fun hc1 => ?_)
  · replace hf := iteP hc1 hf
    refine lv_iconst (v := (0 : Int32)) hx hb d_Te_takesKind_10 (by decide) ?_
    refine lv_istore_n (lv' := [(2, .int (0 : Int32)), (0, .ref z), (1, .int p0)]) hx hb d_Te_takesKind_11 rfl hl (by decide) rfl (fun ls hl => ?_)
    obtain ⟨z5, hz5, hf⟩ := obn hf
    have K2 : ∀ x6, z5 = .inl x6 → ∀ (H : Heap) (locs : List Loc), va_P G classes [(z, .inr (6, [.ref z_letters_a, .int z_length, .int x6.2.1, .int x6.2.2.1, .int z_items, .int x6.2.2.2])), (z_letters_a, .inl (cy 0, 120, .inl z_letters))] H → va_D A [(z, .inr (6, [.ref z_letters_a, .int z_length, .int x6.2.1, .int x6.2.2.1, .int z_items, .int x6.2.2.2])), (z_letters_a, .inl (cy 0, 120, .inl z_letters))] → va_S A s.heap H locs → ∀ (ls : Array Slot), lv_has ls 3 [(0, .ref z), (1, .int p0), (2, .int x6.1)] → W p l e (RM 0 0 0) s m ([.ref z, .int p0] : List Value).toArray below meth c H locs 0 0 (MQ below (CQ G (some (.int out.1)) Bp A) ([.ref z, .int p0] : List Value).toArray s 0 0 A) (F0 m 70 ls []) := by
      intro x6 ez5 H locs hP hD hS ls hl
      subst ez5
      replace hf := sml hf
      refine lv_iconst (v := (0 : Int32)) hx hb d_Te_takesKind_70 (by decide) ?_
      obtain rfl := Option.some.inj hf
      exact W.zret (v := (0 : Int32)) hx hb hr (show narrow .boolean (.int (0 : Int32)) = .int (0 : Int32) from rfl) (x_ret hP hD hS hBp) hS.2.2 d_Te_takesKind_71
    have K3 : ∀ r, z5 = .inr r → some r = some out := by
      intro r ez5
      subst ez5
      exact smr hf
    clear hf
    have L4 : ∀ (n : Nat) (i2_12 : Int32) (z_kind_12 : Int32) (z_numbers_12 : Int32) (z_kindsTold_12 : Int32), f_Te_takesKind_L12 p0 n i2_12 z_kind_12 z_numbers_12 z_kindsTold_12 = some z5 → ∀ (H : Heap) (locs : List Loc), va_P G classes [(z, .inr (6, [.ref z_letters_a, .int z_length, .int z_kind_12, .int z_numbers_12, .int z_items, .int z_kindsTold_12])), (z_letters_a, .inl (cy 0, 120, .inl z_letters))] H → va_D A [(z, .inr (6, [.ref z_letters_a, .int z_length, .int z_kind_12, .int z_numbers_12, .int z_items, .int z_kindsTold_12])), (z_letters_a, .inl (cy 0, 120, .inl z_letters))] → va_S A s.heap H locs → ∀ (ls : Array Slot), lv_has ls 3 [(0, .ref z), (1, .int p0), (2, .int i2_12)] → W p l e (RM 0 0 0) s m ([.ref z, .int p0] : List Value).toArray below meth c H locs 0 0 (MQ below (CQ G (some (.int out.1)) Bp A) ([.ref z, .int p0] : List Value).toArray s 0 0 A) (F0 m 12 ls []) := by
      intro n
      induction n with
      | zero => intro i2_12 z_kind_12 z_numbers_12 z_kindsTold_12 hf; exact absurd ((f_Te_takesKind_L12_z p0 i2_12 z_kind_12 z_numbers_12 z_kindsTold_12).symm.trans hf) (by intro h; cases h)
      | succ n ih =>
        intro i2_12 z_kind_12 z_numbers_12 z_kindsTold_12 hf H locs hP hD hS ls hl
        replace hf := (f_Te_takesKind_L12_s p0 n i2_12 z_kind_12 z_numbers_12 z_kindsTold_12).symm.trans hf
        refine lv_iload_n hx hb d_Te_takesKind_12 rfl (lv_at hl 2 rfl) ?_
        refine va_gets (v := .ref (kz 0)) hx hb (hE.2.2.2.1.1.narrow hNA) hS hown (hB _ m_294) (fun _ h9 => h9) d_Te_takesKind_13 ?_
        refine va_tlen (v := (4 : Int32)) hx hb (hE.2.2.2.1.2.narrow hNA) hS rfl d_Te_takesKind_16 ?_
        refine lv_icmp_ge (tgt := 70) hx hb d_Te_takesKind_17 (by decide) (fun hc7 => ?_) (fun hc7 => ?_)
        · replace hf := iteP hc7 hf
          obtain rfl := Option.some.inj hf
          exact K2 _ rfl _ _ hP hD hS _ (lv_sub hl [0, 1, 2] rfl)
        · replace hf := iteN hc7 hf
          refine va_gets (v := .ref (kz 0)) hx hb (hE.2.2.2.1.1.narrow hNA) hS hown (hB _ m_294) (fun _ h9 => h9) d_Te_takesKind_20 ?_
          refine lv_iload_n hx hb d_Te_takesKind_23 rfl (lv_at hl 2 rfl) ?_
          obtain ⟨hg8, hf⟩ := gdn hf
          refine va_tc (v := .int (sK i2_12.toNatClampNeg)) hx hb (hE.2.2.2.1.2.narrow hNA) hS hg8 rfl d_Te_takesKind_24 ?_
          refine lv_iload_n hx hb d_Te_takesKind_25 rfl (lv_at hl 1 rfl) ?_
          refine lv_icmp_ne (tgt := 64) hx hb d_Te_takesKind_26 (by decide) (fun hc9 => ?_) (fun hc9 => ?_)
          · replace hf := iteN hc9 hf
            refine lv_iinc (v := (i2_12 + (1 : Int32))) (lv' := [(2, .int (i2_12 + (1 : Int32))), (0, .ref z), (1, .int p0)]) hx hb d_Te_takesKind_64 hl (k := 2) rfl rfl (by decide) rfl (fun ls hl => ?_)
            refine lv_goto (tgt := 12) hx hb d_Te_takesKind_67 (by decide) ?_
            exact ih (i2_12 + (1 : Int32)) z_kind_12 z_numbers_12 z_kindsTold_12 hf _ _ hP hD hS _ (lv_sub hl [1, 2, 0] rfl)
          · replace hf := iteP hc9 hf
            refine lv_aload_n hx hb d_Te_takesKind_29 rfl (lv_at hl 0 rfl) ?_
            refine va_get (D := G) (ci := 6) (v := .int z_kindsTold_12) (C := "YieldDesk$TellText") (T := F_Te) (N := 6) hx hb hB fi_Te hown hE.1 hP 0 rfl rfl 5 (by decide) (hB _ m_86) (fun _ h9 => h9) rfl d_Te_takesKind_30 ?_
            refine lv_iload_n hx hb d_Te_takesKind_33 rfl (lv_at hl 2 rfl) ?_
            refine lv_ishr hx hb d_Te_takesKind_34 ?_
            refine lv_iconst (v := (1 : Int32)) hx hb d_Te_takesKind_35 (by decide) ?_
            refine lv_iand hx hb d_Te_takesKind_36 ?_
            refine lv_if_ne (tgt := 64) hx hb d_Te_takesKind_37 (by decide) (fun hc10 => ?_) (fun hc10 => ?_)
            · replace hf := iteN hc10 hf
              refine lv_iinc (v := (i2_12 + (1 : Int32))) (lv' := [(2, .int (i2_12 + (1 : Int32))), (0, .ref z), (1, .int p0)]) hx hb d_Te_takesKind_64 hl (k := 2) rfl rfl (by decide) rfl (fun ls hl => ?_)
              refine lv_goto (tgt := 12) hx hb d_Te_takesKind_67 (by decide) ?_
              exact ih (i2_12 + (1 : Int32)) z_kind_12 z_numbers_12 z_kindsTold_12 hf _ _ hP hD hS _ (lv_sub hl [1, 2, 0] rfl)
            · replace hf := iteP hc10 hf
              refine lv_aload_n hx hb d_Te_takesKind_40 rfl (lv_at hl 0 rfl) ?_
              refine lv_dup hx hb d_Te_takesKind_41 rfl ?_
              refine va_get (D := G) (ci := 6) (v := .int z_kindsTold_12) (C := "YieldDesk$TellText") (T := F_Te) (N := 6) hx hb hB fi_Te hown hE.1 hP 0 rfl rfl 5 (by decide) (hB _ m_86) (fun _ h9 => h9) rfl d_Te_takesKind_42 ?_
              refine lv_iconst (v := (1 : Int32)) hx hb d_Te_takesKind_45 (by decide) ?_
              refine lv_iload_n hx hb d_Te_takesKind_46 rfl (lv_at hl 2 rfl) ?_
              refine lv_ishl hx hb d_Te_takesKind_47 ?_
              refine lv_ior hx hb d_Te_takesKind_48 ?_
              refine va_put (D := G) (ci := 6) (v := .int (z_kindsTold_12 ||| ((1 : Int32) <<< (i2_12 &&& 31)))) (ty := .int) (C := "YieldDesk$TellText") (T := F_Te) (N := 6) hx hb hB fi_Te ft_Te fo_Te fn_Te hown hE.1 hP hD hS 0 rfl rfl 5 (by decide) (hB _ m_86) (fun _ h9 => h9) rfl (by decide +kernel) rfl rfl (Nat.le_of_ble_eq_true rfl) d_Te_takesKind_49 (fun H locs hP hD hS => ?_)
              have hP : va_P G classes [(z, .inr (6, [.ref z_letters_a, .int z_length, .int z_kind_12, .int z_numbers_12, .int z_items, .int (z_kindsTold_12 ||| ((1 : Int32) <<< (i2_12 &&& 31)))])), (z_letters_a, .inl (cy 0, 120, .inl z_letters))] H := hP
              have hD : va_D A [(z, .inr (6, [.ref z_letters_a, .int z_length, .int z_kind_12, .int z_numbers_12, .int z_items, .int (z_kindsTold_12 ||| ((1 : Int32) <<< (i2_12 &&& 31)))])), (z_letters_a, .inl (cy 0, 120, .inl z_letters))] := hD
              refine lv_aload_n hx hb d_Te_takesKind_52 rfl (lv_at hl 0 rfl) ?_
              refine lv_iload_n hx hb d_Te_takesKind_53 rfl (lv_at hl 2 rfl) ?_
              refine va_put (D := G) (ci := 6) (v := .int i2_12) (ty := .int) (C := "YieldDesk$TellText") (T := F_Te) (N := 6) hx hb hB fi_Te ft_Te fo_Te fn_Te hown hE.1 hP hD hS 0 rfl rfl 2 (by decide) (hB _ m_83) (fun _ h9 => h9) rfl (by decide +kernel) rfl rfl (Nat.le_of_ble_eq_true rfl) d_Te_takesKind_54 (fun H locs hP hD hS => ?_)
              have hP : va_P G classes [(z, .inr (6, [.ref z_letters_a, .int z_length, .int i2_12, .int z_numbers_12, .int z_items, .int (z_kindsTold_12 ||| ((1 : Int32) <<< (i2_12 &&& 31)))])), (z_letters_a, .inl (cy 0, 120, .inl z_letters))] H := hP
              have hD : va_D A [(z, .inr (6, [.ref z_letters_a, .int z_length, .int i2_12, .int z_numbers_12, .int z_items, .int (z_kindsTold_12 ||| ((1 : Int32) <<< (i2_12 &&& 31)))])), (z_letters_a, .inl (cy 0, 120, .inl z_letters))] := hD
              refine lv_aload_n hx hb d_Te_takesKind_57 rfl (lv_at hl 0 rfl) ?_
              refine lv_iconst (v := (0 : Int32)) hx hb d_Te_takesKind_58 (by decide) ?_
              refine va_put (D := G) (ci := 6) (v := .int (0 : Int32)) (ty := .int) (C := "YieldDesk$TellText") (T := F_Te) (N := 6) hx hb hB fi_Te ft_Te fo_Te fn_Te hown hE.1 hP hD hS 0 rfl rfl 3 (by decide) (hB _ m_84) (fun _ h9 => h9) rfl (by decide +kernel) rfl rfl (Nat.le_of_ble_eq_true rfl) d_Te_takesKind_59 (fun H locs hP hD hS => ?_)
              have hP : va_P G classes [(z, .inr (6, [.ref z_letters_a, .int z_length, .int i2_12, .int (0 : Int32), .int z_items, .int (z_kindsTold_12 ||| ((1 : Int32) <<< (i2_12 &&& 31)))])), (z_letters_a, .inl (cy 0, 120, .inl z_letters))] H := hP
              have hD : va_D A [(z, .inr (6, [.ref z_letters_a, .int z_length, .int i2_12, .int (0 : Int32), .int z_items, .int (z_kindsTold_12 ||| ((1 : Int32) <<< (i2_12 &&& 31)))])), (z_letters_a, .inl (cy 0, 120, .inl z_letters))] := hD
              refine lv_iconst (v := (1 : Int32)) hx hb d_Te_takesKind_62 (by decide) ?_
              obtain rfl := Option.some.inj hf
              have hf := K3 _ rfl
              obtain rfl := Option.some.inj hf
              exact W.zret (v := (1 : Int32)) hx hb hr (show narrow .boolean (.int (1 : Int32)) = .int (1 : Int32) from rfl) (x_ret hP hD hS hBp) hS.2.2 d_Te_takesKind_63
    exact L4 FU (0 : Int32) z_kind z_numbers z_kindsTold hz5 _ _ hP hD hS _ (lv_sub hl [1, 2, 0] rfl)
  · replace hf := iteN hc1 hf
    refine lv_iconst (v := (0 : Int32)) hx hb d_Te_takesKind_8 (by decide) ?_
    obtain rfl := Option.some.inj hf
    exact W.zret (v := (0 : Int32)) hx hb hr (show narrow .boolean (.int (0 : Int32)) = .int (0 : Int32) from rfl) (x_ret hP hD hS hBp) hS.2.2 d_Te_takesKind_9
set_option maxHeartbeats 4000000 in
set_option maxRecDepth 100000 in
theorem t_Te_takesToken (l : Launch) (G : va_G) (cy : Nat → ClassId) (kz : Nat → Nat) (N0 : Nat) (z : Nat) (z_length : Int32) (z_kind : Int32) (z_numbers : Int32) (z_items : Int32) (z_kindsTold : Int32) (z_letters_a : Nat) (z_letters : Nat → Int32) (p0 : Int32) (p1 : Int32) (o2 : Nat) (o2_periods : Int32) (o2_draft : Int32) (o2_cap : Int32) (o2_time : Int32) (o2_volume : Int32) (o2_fails : Int32) (o2_lacking : Int32) (o2_spilt : Int32) (o2_inflows_a : Nat) (o2_inflows : Nat → Int32) (o2_losses_a : Nat) (o2_losses : Nat → Int32) (out : Int32 × Int32 × Int32 × Int32 × Int32 × Int32 × Int32 × Int32 × (Nat → Int32) × (Nat → Int32)) (h0 : f_Te_takesToken z_length z_kind z_numbers z_items z_kindsTold z_letters p0 p1 o2_periods o2_draft o2_cap o2_inflows o2_losses = some out) (Bp : va_W → Prop) (hBp : Bp [(z, .inr (6, [.ref z_letters_a, .int z_length, .int out.2.1, .int out.2.2.1, .int out.2.2.2.1, .int out.2.2.2.2.1])), (z_letters_a, .inl (cy 0, 120, .inl z_letters)), (o2, .inr (0, [.ref o2_inflows_a, .ref o2_losses_a, .int out.2.2.2.2.2.1, .int out.2.2.2.2.2.2.1, .int out.2.2.2.2.2.2.2.1, .int o2_time, .int o2_volume, .int o2_fails, .int o2_lacking, .int o2_spilt])), (o2_inflows_a, .inl (cy 0, 12, .inl out.2.2.2.2.2.2.2.2.1)), (o2_losses_a, .inl (cy 0, 10, .inl out.2.2.2.2.2.2.2.2.2))]) : CT l G cy kz N0 y_Te_takesToken b_Te_takesToken 4 (some .boolean) 3 0 0 [.ref z, .int p0, .int p1, .ref o2] [(z, .inr (6, [.ref z_letters_a, .int z_length, .int z_kind, .int z_numbers, .int z_items, .int z_kindsTold])), (z_letters_a, .inl (cy 0, 120, .inl z_letters)), (o2, .inr (0, [.ref o2_inflows_a, .ref o2_losses_a, .int o2_periods, .int o2_draft, .int o2_cap, .int o2_time, .int o2_volume, .int o2_fails, .int o2_lacking, .int o2_spilt])), (o2_inflows_a, .inl (cy 0, 12, .inl o2_inflows)), (o2_losses_a, .inl (cy 0, 10, .inl o2_losses))] (some (.int out.1)) Bp := by
  refine CT.of (by decide) (Nat.le_of_ble_eq_true rfl) ?_
  intro p e s m below meth c A ls hx hb hr hml hB hown hlocks hnm hE hN hA hNA hP hD hS hl
  have hown : s.vm.findClass "YieldDesk$TellText" = some m.cls := hown
  have hl : lv_has ls 4 [(0, .ref z), (1, .int p0), (2, .int p1), (3, .ref o2)] := hl
  have hf := h0
  unfold f_Te_takesToken at hf
  refine lv_aload_n hx hb d_Te_takesToken_0 rfl (lv_at hl 0 rfl) ?_
  refine lv_iload_n hx hb d_Te_takesToken_1 rfl (lv_at hl 1 rfl) ?_
  obtain ⟨z1, hz1, hf⟩ := obn hf
  refine x_V (As := [.int p0]) (rest := []) (wc := [(z, .inr (6, [.ref z_letters_a, .int z_length, .int z_kind, .int z_numbers, .int z_items, .int z_kindsTold])), (z_letters_a, .inl (cy 0, 120, .inl z_letters))]) (wr := [(o2, .inr (0, [.ref o2_inflows_a, .ref o2_losses_a, .int o2_periods, .int o2_draft, .int o2_cap, .int o2_time, .int o2_volume, .int o2_fails, .int o2_lacking, .int o2_spilt])), (o2_inflows_a, .inl (cy 0, 12, .inl o2_inflows)), (o2_losses_a, .inl (cy 0, 10, .inl o2_losses))]) (t_Te_isFigure l G cy kz N0  z z_length z_kind z_numbers z_items z_kindsTold z_letters_a z_letters p0 z1 hz1 (fun w => w = [(z, .inr (6, [.ref z_letters_a, .int z_length, .int z_kind, .int z_numbers, .int z_items, .int z_kindsTold])), (z_letters_a, .inl (cy 0, 120, .inl z_letters))]) rfl) hx hb hml hown hB hE hN hNA m_278 m_280 mS_Te_isFigure m_3 m_281 hdV_Te_isFigure ⟨Nat.le_of_ble_eq_true rfl, Nat.le_of_ble_eq_true rfl, Nat.le_of_ble_eq_true rfl, Nat.le_of_ble_eq_true rfl⟩ hP hD hS hA 0 6 rfl rfl rfl [0, 1] [2, 3, 4] rfl rfl (by decide) (by decide) hl.1 rfl (Nat.le_of_ble_eq_true rfl) d_Te_takesToken_2 (fun _ H locs hw hP hD hS => ?_)
  subst hw
  replace hP : va_P G classes [(z, .inr (6, [.ref z_letters_a, .int z_length, .int z_kind, .int z_numbers, .int z_items, .int z_kindsTold])), (z_letters_a, .inl (cy 0, 120, .inl z_letters)), (o2, .inr (0, [.ref o2_inflows_a, .ref o2_losses_a, .int o2_periods, .int o2_draft, .int o2_cap, .int o2_time, .int o2_volume, .int o2_fails, .int o2_lacking, .int o2_spilt])), (o2_inflows_a, .inl (cy 0, 12, .inl o2_inflows)), (o2_losses_a, .inl (cy 0, 10, .inl o2_losses))] H := hP.sub [3, 4, 0, 1, 2] rfl
  replace hD : va_D A [(z, .inr (6, [.ref z_letters_a, .int z_length, .int z_kind, .int z_numbers, .int z_items, .int z_kindsTold])), (z_letters_a, .inl (cy 0, 120, .inl z_letters)), (o2, .inr (0, [.ref o2_inflows_a, .ref o2_losses_a, .int o2_periods, .int o2_draft, .int o2_cap, .int o2_time, .int o2_volume, .int o2_fails, .int o2_lacking, .int o2_spilt])), (o2_inflows_a, .inl (cy 0, 12, .inl o2_inflows)), (o2_losses_a, .inl (cy 0, 10, .inl o2_losses))] := hD.sub [3, 4, 0, 1, 2] (by decide) rfl
  refine lv_if_eq (tgt := 20) hx hb d_Te_takesToken_5 (by decide) (fun hc2 => ?_) (fun hc2 => ?_)
  · replace hf := iteP hc2 hf
    refine lv_aload_n hx hb d_Te_takesToken_20 rfl (lv_at hl 0 rfl) ?_
    refine lv_iload_n hx hb d_Te_takesToken_21 rfl (lv_at hl 1 rfl) ?_
    obtain ⟨z3, hz3, hf⟩ := obn hf
    refine x_V (As := [.int p0]) (rest := []) (wc := [(z, .inr (6, [.ref z_letters_a, .int z_length, .int z_kind, .int z_numbers, .int z_items, .int z_kindsTold])), (z_letters_a, .inl (cy 0, 120, .inl z_letters))]) (wr := [(o2, .inr (0, [.ref o2_inflows_a, .ref o2_losses_a, .int o2_periods, .int o2_draft, .int o2_cap, .int o2_time, .int o2_volume, .int o2_fails, .int o2_lacking, .int o2_spilt])), (o2_inflows_a, .inl (cy 0, 12, .inl o2_inflows)), (o2_losses_a, .inl (cy 0, 10, .inl o2_losses))]) (t_Te_letterAt l G cy kz N0  z z_length z_kind z_numbers z_items z_kindsTold z_letters_a z_letters p0 z3 hz3 (fun w => w = [(z, .inr (6, [.ref z_letters_a, .int z_length, .int z_kind, .int z_numbers, .int z_items, .int z_kindsTold])), (z_letters_a, .inl (cy 0, 120, .inl z_letters))]) rfl) hx hb hml hown hB hE hN hNA m_266 m_268 mS_Te_letterAt m_3 m_269 hdV_Te_letterAt ⟨Nat.le_of_ble_eq_true rfl, Nat.le_of_ble_eq_true rfl, Nat.le_of_ble_eq_true rfl, Nat.le_of_ble_eq_true rfl⟩ hP hD hS hA 0 6 rfl rfl rfl [0, 1] [2, 3, 4] rfl rfl (by decide) (by decide) hl.1 rfl (Nat.le_of_ble_eq_true rfl) d_Te_takesToken_22 (fun _ H locs hw hP hD hS => ?_)
    subst hw
    replace hP : va_P G classes [(z, .inr (6, [.ref z_letters_a, .int z_length, .int z_kind, .int z_numbers, .int z_items, .int z_kindsTold])), (z_letters_a, .inl (cy 0, 120, .inl z_letters)), (o2, .inr (0, [.ref o2_inflows_a, .ref o2_losses_a, .int o2_periods, .int o2_draft, .int o2_cap, .int o2_time, .int o2_volume, .int o2_fails, .int o2_lacking, .int o2_spilt])), (o2_inflows_a, .inl (cy 0, 12, .inl o2_inflows)), (o2_losses_a, .inl (cy 0, 10, .inl o2_losses))] H := hP.sub [3, 4, 0, 1, 2] rfl
    replace hD : va_D A [(z, .inr (6, [.ref z_letters_a, .int z_length, .int z_kind, .int z_numbers, .int z_items, .int z_kindsTold])), (z_letters_a, .inl (cy 0, 120, .inl z_letters)), (o2, .inr (0, [.ref o2_inflows_a, .ref o2_losses_a, .int o2_periods, .int o2_draft, .int o2_cap, .int o2_time, .int o2_volume, .int o2_fails, .int o2_lacking, .int o2_spilt])), (o2_inflows_a, .inl (cy 0, 12, .inl o2_inflows)), (o2_losses_a, .inl (cy 0, 10, .inl o2_losses))] := hD.sub [3, 4, 0, 1, 2] (by decide) rfl
    refine lv_bipush (v := (59 : Int32)) hx hb d_Te_takesToken_25 (by decide) ?_
    refine lv_icmp_ne (tgt := 35) hx hb d_Te_takesToken_27 (by decide) (fun hc4 => ?_) (fun hc4 => ?_)
    · replace hf := iteN hc4 hf
      refine lv_aload_n hx hb d_Te_takesToken_35 rfl (lv_at hl 0 rfl) ?_
      refine lv_aload_n hx hb d_Te_takesToken_36 rfl (lv_at hl 0 rfl) ?_
      refine lv_iload_n hx hb d_Te_takesToken_37 rfl (lv_at hl 1 rfl) ?_
      obtain ⟨z5, hz5, hf⟩ := obn hf
      refine x_V (As := [.int p0]) (rest := [.ref z]) (wc := [(z, .inr (6, [.ref z_letters_a, .int z_length, .int z_kind, .int z_numbers, .int z_items, .int z_kindsTold])), (z_letters_a, .inl (cy 0, 120, .inl z_letters))]) (wr := [(o2, .inr (0, [.ref o2_inflows_a, .ref o2_losses_a, .int o2_periods, .int o2_draft, .int o2_cap, .int o2_time, .int o2_volume, .int o2_fails, .int o2_lacking, .int o2_spilt])), (o2_inflows_a, .inl (cy 0, 12, .inl o2_inflows)), (o2_losses_a, .inl (cy 0, 10, .inl o2_losses))]) (t_Te_letterAt l G cy kz N0  z z_length z_kind z_numbers z_items z_kindsTold z_letters_a z_letters p0 z5 hz5 (fun w => w = [(z, .inr (6, [.ref z_letters_a, .int z_length, .int z_kind, .int z_numbers, .int z_items, .int z_kindsTold])), (z_letters_a, .inl (cy 0, 120, .inl z_letters))]) rfl) hx hb hml hown hB hE hN hNA m_266 m_268 mS_Te_letterAt m_3 m_269 hdV_Te_letterAt ⟨Nat.le_of_ble_eq_true rfl, Nat.le_of_ble_eq_true rfl, Nat.le_of_ble_eq_true rfl, Nat.le_of_ble_eq_true rfl⟩ hP hD hS hA 0 6 rfl rfl rfl [0, 1] [2, 3, 4] rfl rfl (by decide) (by decide) hl.1 rfl (Nat.le_of_ble_eq_true rfl) d_Te_takesToken_38 (fun _ H locs hw hP hD hS => ?_)
      subst hw
      replace hP : va_P G classes [(z, .inr (6, [.ref z_letters_a, .int z_length, .int z_kind, .int z_numbers, .int z_items, .int z_kindsTold])), (z_letters_a, .inl (cy 0, 120, .inl z_letters)), (o2, .inr (0, [.ref o2_inflows_a, .ref o2_losses_a, .int o2_periods, .int o2_draft, .int o2_cap, .int o2_time, .int o2_volume, .int o2_fails, .int o2_lacking, .int o2_spilt])), (o2_inflows_a, .inl (cy 0, 12, .inl o2_inflows)), (o2_losses_a, .inl (cy 0, 10, .inl o2_losses))] H := hP.sub [3, 4, 0, 1, 2] rfl
      replace hD : va_D A [(z, .inr (6, [.ref z_letters_a, .int z_length, .int z_kind, .int z_numbers, .int z_items, .int z_kindsTold])), (z_letters_a, .inl (cy 0, 120, .inl z_letters)), (o2, .inr (0, [.ref o2_inflows_a, .ref o2_losses_a, .int o2_periods, .int o2_draft, .int o2_cap, .int o2_time, .int o2_volume, .int o2_fails, .int o2_lacking, .int o2_spilt])), (o2_inflows_a, .inl (cy 0, 12, .inl o2_inflows)), (o2_losses_a, .inl (cy 0, 10, .inl o2_losses))] := hD.sub [3, 4, 0, 1, 2] (by decide) rfl
      obtain ⟨z6, hz6, hf⟩ := obn hf
      refine x_V (As := [.int z5]) (rest := []) (wc := [(z, .inr (6, [.ref z_letters_a, .int z_length, .int z_kind, .int z_numbers, .int z_items, .int z_kindsTold])), (z_letters_a, .inl (cy 0, 120, .inl z_letters))]) (wr := [(o2, .inr (0, [.ref o2_inflows_a, .ref o2_losses_a, .int o2_periods, .int o2_draft, .int o2_cap, .int o2_time, .int o2_volume, .int o2_fails, .int o2_lacking, .int o2_spilt])), (o2_inflows_a, .inl (cy 0, 12, .inl o2_inflows)), (o2_losses_a, .inl (cy 0, 10, .inl o2_losses))]) (t_Te_takesKind l G cy kz N0  z z_length z_kind z_numbers z_items z_kindsTold z_letters_a z_letters z5 z6 hz6 (fun w => w = [(z, .inr (6, [.ref z_letters_a, .int z_length, .int z6.2.1, .int z6.2.2.1, .int z_items, .int z6.2.2.2])), (z_letters_a, .inl (cy 0, 120, .inl z_letters))]) rfl) hx hb hml hown hB hE hN hNA m_315 m_317 mS_Te_takesKind m_3 m_318 hdV_Te_takesKind ⟨Nat.le_of_ble_eq_true rfl, Nat.le_of_ble_eq_true rfl, Nat.le_of_ble_eq_true rfl, Nat.le_of_ble_eq_true rfl⟩ hP hD hS hA 0 6 rfl rfl rfl [0, 1] [2, 3, 4] rfl rfl (by decide) (by decide) hl.1 rfl (Nat.le_of_ble_eq_true rfl) d_Te_takesToken_41 (fun _ H locs hw hP hD hS => ?_)
      subst hw
      replace hP : va_P G classes [(z, .inr (6, [.ref z_letters_a, .int z_length, .int z6.2.1, .int z6.2.2.1, .int z_items, .int z6.2.2.2])), (z_letters_a, .inl (cy 0, 120, .inl z_letters)), (o2, .inr (0, [.ref o2_inflows_a, .ref o2_losses_a, .int o2_periods, .int o2_draft, .int o2_cap, .int o2_time, .int o2_volume, .int o2_fails, .int o2_lacking, .int o2_spilt])), (o2_inflows_a, .inl (cy 0, 12, .inl o2_inflows)), (o2_losses_a, .inl (cy 0, 10, .inl o2_losses))] H := hP.sub [3, 4, 0, 1, 2] rfl
      replace hD : va_D A [(z, .inr (6, [.ref z_letters_a, .int z_length, .int z6.2.1, .int z6.2.2.1, .int z_items, .int z6.2.2.2])), (z_letters_a, .inl (cy 0, 120, .inl z_letters)), (o2, .inr (0, [.ref o2_inflows_a, .ref o2_losses_a, .int o2_periods, .int o2_draft, .int o2_cap, .int o2_time, .int o2_volume, .int o2_fails, .int o2_lacking, .int o2_spilt])), (o2_inflows_a, .inl (cy 0, 12, .inl o2_inflows)), (o2_losses_a, .inl (cy 0, 10, .inl o2_losses))] := hD.sub [3, 4, 0, 1, 2] (by decide) rfl
      obtain ⟨hg7, hf⟩ := gdn hf
      have hg7n : narrow .boolean (.int z6.1) = .int z6.1 := by rcases Decidable.not_not.mp hg7 with q | q <;> rw [q] <;> rfl
      obtain rfl := Option.some.inj hf
      exact W.zret hx hb hr hg7n (x_ret hP hD hS hBp) hS.2.2 d_Te_takesToken_44
    · replace hf := iteP hc4 hf
      refine lv_aload_n hx hb d_Te_takesToken_30 rfl (lv_at hl 0 rfl) ?_
      obtain ⟨z8, hz8, hf⟩ := obn hf
      refine x_V (As := []) (rest := []) (wc := [(z, .inr (6, [.ref z_letters_a, .int z_length, .int z_kind, .int z_numbers, .int z_items, .int z_kindsTold])), (z_letters_a, .inl (cy 0, 120, .inl z_letters))]) (wr := [(o2, .inr (0, [.ref o2_inflows_a, .ref o2_losses_a, .int o2_periods, .int o2_draft, .int o2_cap, .int o2_time, .int o2_volume, .int o2_fails, .int o2_lacking, .int o2_spilt])), (o2_inflows_a, .inl (cy 0, 12, .inl o2_inflows)), (o2_losses_a, .inl (cy 0, 10, .inl o2_losses))]) (t_Te_takesEnd l G cy kz N0  z z_length z_kind z_numbers z_items z_kindsTold z_letters_a z_letters z8 hz8 (fun w => w = [(z, .inr (6, [.ref z_letters_a, .int z_length, .int z8.2.1, .int z_numbers, .int z8.2.2, .int z_kindsTold])), (z_letters_a, .inl (cy 0, 120, .inl z_letters))]) rfl) hx hb hml hown hB hE hN hNA m_309 m_311 mS_Te_takesEnd m_3 m_312 hdV_Te_takesEnd ⟨Nat.le_of_ble_eq_true rfl, Nat.le_of_ble_eq_true rfl, Nat.le_of_ble_eq_true rfl, Nat.le_of_ble_eq_true rfl⟩ hP hD hS hA 0 6 rfl rfl rfl [0, 1] [2, 3, 4] rfl rfl (by decide) (by decide) hl.1 rfl (Nat.le_of_ble_eq_true rfl) d_Te_takesToken_31 (fun _ H locs hw hP hD hS => ?_)
      subst hw
      replace hP : va_P G classes [(z, .inr (6, [.ref z_letters_a, .int z_length, .int z8.2.1, .int z_numbers, .int z8.2.2, .int z_kindsTold])), (z_letters_a, .inl (cy 0, 120, .inl z_letters)), (o2, .inr (0, [.ref o2_inflows_a, .ref o2_losses_a, .int o2_periods, .int o2_draft, .int o2_cap, .int o2_time, .int o2_volume, .int o2_fails, .int o2_lacking, .int o2_spilt])), (o2_inflows_a, .inl (cy 0, 12, .inl o2_inflows)), (o2_losses_a, .inl (cy 0, 10, .inl o2_losses))] H := hP.sub [3, 4, 0, 1, 2] rfl
      replace hD : va_D A [(z, .inr (6, [.ref z_letters_a, .int z_length, .int z8.2.1, .int z_numbers, .int z8.2.2, .int z_kindsTold])), (z_letters_a, .inl (cy 0, 120, .inl z_letters)), (o2, .inr (0, [.ref o2_inflows_a, .ref o2_losses_a, .int o2_periods, .int o2_draft, .int o2_cap, .int o2_time, .int o2_volume, .int o2_fails, .int o2_lacking, .int o2_spilt])), (o2_inflows_a, .inl (cy 0, 12, .inl o2_inflows)), (o2_losses_a, .inl (cy 0, 10, .inl o2_losses))] := hD.sub [3, 4, 0, 1, 2] (by decide) rfl
      obtain ⟨hg9, hf⟩ := gdn hf
      have hg9n : narrow .boolean (.int z8.1) = .int z8.1 := by rcases Decidable.not_not.mp hg9 with q | q <;> rw [q] <;> rfl
      obtain rfl := Option.some.inj hf
      exact W.zret hx hb hr hg9n (x_ret hP hD hS hBp) hS.2.2 d_Te_takesToken_34
  · replace hf := iteN hc2 hf
    refine lv_aload_n hx hb d_Te_takesToken_8 rfl (lv_at hl 0 rfl) ?_
    refine lv_aload_n hx hb d_Te_takesToken_9 rfl (lv_at hl 0 rfl) ?_
    refine lv_iload_n hx hb d_Te_takesToken_10 rfl (lv_at hl 1 rfl) ?_
    refine lv_iload_n hx hb d_Te_takesToken_11 rfl (lv_at hl 2 rfl) ?_
    obtain ⟨z10, hz10, hf⟩ := obn hf
    refine x_V (As := [.int p0, .int p1]) (rest := [.ref z]) (wc := [(z, .inr (6, [.ref z_letters_a, .int z_length, .int z_kind, .int z_numbers, .int z_items, .int z_kindsTold])), (z_letters_a, .inl (cy 0, 120, .inl z_letters))]) (wr := [(o2, .inr (0, [.ref o2_inflows_a, .ref o2_losses_a, .int o2_periods, .int o2_draft, .int o2_cap, .int o2_time, .int o2_volume, .int o2_fails, .int o2_lacking, .int o2_spilt])), (o2_inflows_a, .inl (cy 0, 12, .inl o2_inflows)), (o2_losses_a, .inl (cy 0, 10, .inl o2_losses))]) (t_Te_numberAt l G cy kz N0  z z_length z_kind z_numbers z_items z_kindsTold z_letters_a z_letters p0 p1 z10 hz10 (fun w => w = [(z, .inr (6, [.ref z_letters_a, .int z_length, .int z_kind, .int z_numbers, .int z_items, .int z_kindsTold])), (z_letters_a, .inl (cy 0, 120, .inl z_letters))]) rfl) hx hb hml hown hB hE hN hNA m_286 m_288 mS_Te_numberAt m_3 m_289 hdV_Te_numberAt ⟨Nat.le_of_ble_eq_true rfl, Nat.le_of_ble_eq_true rfl, Nat.le_of_ble_eq_true rfl, Nat.le_of_ble_eq_true rfl⟩ hP hD hS hA 0 6 rfl rfl rfl [0, 1] [2, 3, 4] rfl rfl (by decide) (by decide) hl.1 rfl (Nat.le_of_ble_eq_true rfl) d_Te_takesToken_12 (fun _ H locs hw hP hD hS => ?_)
    subst hw
    replace hP : va_P G classes [(z, .inr (6, [.ref z_letters_a, .int z_length, .int z_kind, .int z_numbers, .int z_items, .int z_kindsTold])), (z_letters_a, .inl (cy 0, 120, .inl z_letters)), (o2, .inr (0, [.ref o2_inflows_a, .ref o2_losses_a, .int o2_periods, .int o2_draft, .int o2_cap, .int o2_time, .int o2_volume, .int o2_fails, .int o2_lacking, .int o2_spilt])), (o2_inflows_a, .inl (cy 0, 12, .inl o2_inflows)), (o2_losses_a, .inl (cy 0, 10, .inl o2_losses))] H := hP.sub [3, 4, 0, 1, 2] rfl
    replace hD : va_D A [(z, .inr (6, [.ref z_letters_a, .int z_length, .int z_kind, .int z_numbers, .int z_items, .int z_kindsTold])), (z_letters_a, .inl (cy 0, 120, .inl z_letters)), (o2, .inr (0, [.ref o2_inflows_a, .ref o2_losses_a, .int o2_periods, .int o2_draft, .int o2_cap, .int o2_time, .int o2_volume, .int o2_fails, .int o2_lacking, .int o2_spilt])), (o2_inflows_a, .inl (cy 0, 12, .inl o2_inflows)), (o2_losses_a, .inl (cy 0, 10, .inl o2_losses))] := hD.sub [3, 4, 0, 1, 2] (by decide) rfl
    refine lv_aload_n hx hb d_Te_takesToken_15 rfl (lv_at hl 3 rfl) ?_
    obtain ⟨z11, hz11, hf⟩ := obn hf
    refine x_V (As := [.int z10, .ref o2]) (rest := []) (wc := [(z, .inr (6, [.ref z_letters_a, .int z_length, .int z_kind, .int z_numbers, .int z_items, .int z_kindsTold])), (z_letters_a, .inl (cy 0, 120, .inl z_letters)), (o2, .inr (0, [.ref o2_inflows_a, .ref o2_losses_a, .int o2_periods, .int o2_draft, .int o2_cap, .int o2_time, .int o2_volume, .int o2_fails, .int o2_lacking, .int o2_spilt])), (o2_inflows_a, .inl (cy 0, 12, .inl o2_inflows)), (o2_losses_a, .inl (cy 0, 10, .inl o2_losses))]) (wr := []) (t_Te_takesNumber l G cy kz N0  z z_length z_kind z_numbers z_items z_kindsTold z_letters_a z_letters z10 o2 o2_periods o2_draft o2_cap o2_time o2_volume o2_fails o2_lacking o2_spilt o2_inflows_a o2_inflows o2_losses_a o2_losses z11 hz11 (fun w => w = [(z, .inr (6, [.ref z_letters_a, .int z_length, .int z_kind, .int z11.2.1, .int z_items, .int z_kindsTold])), (z_letters_a, .inl (cy 0, 120, .inl z_letters)), (o2, .inr (0, [.ref o2_inflows_a, .ref o2_losses_a, .int z11.2.2.1, .int z11.2.2.2.1, .int z11.2.2.2.2.1, .int o2_time, .int o2_volume, .int o2_fails, .int o2_lacking, .int o2_spilt])), (o2_inflows_a, .inl (cy 0, 12, .inl z11.2.2.2.2.2.1)), (o2_losses_a, .inl (cy 0, 10, .inl z11.2.2.2.2.2.2))]) rfl) hx hb hml hown hB hE hN hNA m_290 m_292 mS_Te_takesNumber m_3 m_293 hdV_Te_takesNumber ⟨Nat.le_of_ble_eq_true rfl, Nat.le_of_ble_eq_true rfl, Nat.le_of_ble_eq_true rfl, Nat.le_of_ble_eq_true rfl⟩ hP hD hS hA 0 6 rfl rfl rfl [0, 1, 2, 3, 4] [] rfl rfl (by decide) (by decide) hl.1 rfl (Nat.le_of_ble_eq_true rfl) d_Te_takesToken_16 (fun _ H locs hw hP hD hS => ?_)
    subst hw
    replace hP : va_P G classes [(z, .inr (6, [.ref z_letters_a, .int z_length, .int z_kind, .int z11.2.1, .int z_items, .int z_kindsTold])), (z_letters_a, .inl (cy 0, 120, .inl z_letters)), (o2, .inr (0, [.ref o2_inflows_a, .ref o2_losses_a, .int z11.2.2.1, .int z11.2.2.2.1, .int z11.2.2.2.2.1, .int o2_time, .int o2_volume, .int o2_fails, .int o2_lacking, .int o2_spilt])), (o2_inflows_a, .inl (cy 0, 12, .inl z11.2.2.2.2.2.1)), (o2_losses_a, .inl (cy 0, 10, .inl z11.2.2.2.2.2.2))] H := hP.sub [0, 1, 2, 3, 4] rfl
    replace hD : va_D A [(z, .inr (6, [.ref z_letters_a, .int z_length, .int z_kind, .int z11.2.1, .int z_items, .int z_kindsTold])), (z_letters_a, .inl (cy 0, 120, .inl z_letters)), (o2, .inr (0, [.ref o2_inflows_a, .ref o2_losses_a, .int z11.2.2.1, .int z11.2.2.2.1, .int z11.2.2.2.2.1, .int o2_time, .int o2_volume, .int o2_fails, .int o2_lacking, .int o2_spilt])), (o2_inflows_a, .inl (cy 0, 12, .inl z11.2.2.2.2.2.1)), (o2_losses_a, .inl (cy 0, 10, .inl z11.2.2.2.2.2.2))] := hD.sub [0, 1, 2, 3, 4] (by decide) rfl
    obtain ⟨hg12, hf⟩ := gdn hf
    have hg12n : narrow .boolean (.int z11.1) = .int z11.1 := by rcases Decidable.not_not.mp hg12 with q | q <;> rw [q] <;> rfl
    obtain rfl := Option.some.inj hf
    exact W.zret hx hb hr hg12n (x_ret hP hD hS hBp) hS.2.2 d_Te_takesToken_19
set_option maxHeartbeats 4000000 in
set_option maxRecDepth 100000 in
theorem t_Te_readInto (l : Launch) (G : va_G) (cy : Nat → ClassId) (kz : Nat → Nat) (N0 : Nat) (z : Nat) (z_length : Int32) (z_kind : Int32) (z_numbers : Int32) (z_items : Int32) (z_kindsTold : Int32) (z_letters_a : Nat) (z_letters : Nat → Int32) (o0 : Nat) (o0_periods : Int32) (o0_draft : Int32) (o0_cap : Int32) (o0_time : Int32) (o0_volume : Int32) (o0_fails : Int32) (o0_lacking : Int32) (o0_spilt : Int32) (o0_inflows_a : Nat) (o0_inflows : Nat → Int32) (o0_losses_a : Nat) (o0_losses : Nat → Int32) (out : Int32 × Int32 × Int32 × Int32 × Int32 × Int32 × Int32 × Int32 × Int32 × Int32 × Int32 × Int32 × Int32 × (Nat → Int32) × (Nat → Int32)) (h0 : f_Te_readInto z_length z_letters o0_inflows o0_losses = some out) (Bp : va_W → Prop) (hBp : Bp [(z, .inr (6, [.ref z_letters_a, .int z_length, .int out.2.1, .int out.2.2.1, .int out.2.2.2.1, .int out.2.2.2.2.1])), (z_letters_a, .inl (cy 0, 120, .inl z_letters)), (o0, .inr (0, [.ref o0_inflows_a, .ref o0_losses_a, .int out.2.2.2.2.2.1, .int out.2.2.2.2.2.2.1, .int out.2.2.2.2.2.2.2.1, .int out.2.2.2.2.2.2.2.2.1, .int out.2.2.2.2.2.2.2.2.2.1, .int out.2.2.2.2.2.2.2.2.2.2.1, .int out.2.2.2.2.2.2.2.2.2.2.2.1, .int out.2.2.2.2.2.2.2.2.2.2.2.2.1])), (o0_inflows_a, .inl (cy 0, 12, .inl out.2.2.2.2.2.2.2.2.2.2.2.2.2.1)), (o0_losses_a, .inl (cy 0, 10, .inl out.2.2.2.2.2.2.2.2.2.2.2.2.2.2))]) : CT l G cy kz N0 y_Te_readInto b_Te_readInto 4 (some .int) 4 0 0 [.ref z, .ref o0] [(z, .inr (6, [.ref z_letters_a, .int z_length, .int z_kind, .int z_numbers, .int z_items, .int z_kindsTold])), (z_letters_a, .inl (cy 0, 120, .inl z_letters)), (o0, .inr (0, [.ref o0_inflows_a, .ref o0_losses_a, .int o0_periods, .int o0_draft, .int o0_cap, .int o0_time, .int o0_volume, .int o0_fails, .int o0_lacking, .int o0_spilt])), (o0_inflows_a, .inl (cy 0, 12, .inl o0_inflows)), (o0_losses_a, .inl (cy 0, 10, .inl o0_losses))] (some (.int out.1)) Bp := by
  refine CT.of (by decide) (Nat.le_of_ble_eq_true rfl) ?_
  intro p e s m below meth c A ls hx hb hr hml hB hown hlocks hnm hE hN hA hNA hP hD hS hl
  have hown : s.vm.findClass "YieldDesk$TellText" = some m.cls := hown
  have hl : lv_has ls 4 [(0, .ref z), (1, .ref o0)] := hl
  have hf := h0
  unfold f_Te_readInto at hf
  refine lv_aload_n hx hb d_Te_readInto_0 rfl (lv_at hl 1 rfl) ?_
  obtain ⟨z1, hz1, hf⟩ := obn hf
  refine x_V (As := []) (rest := []) (wc := [(o0, .inr (0, [.ref o0_inflows_a, .ref o0_losses_a, .int o0_periods, .int o0_draft, .int o0_cap, .int o0_time, .int o0_volume, .int o0_fails, .int o0_lacking, .int o0_spilt])), (o0_inflows_a, .inl (cy 0, 12, .inl o0_inflows)), (o0_losses_a, .inl (cy 0, 10, .inl o0_losses))]) (wr := [(z, .inr (6, [.ref z_letters_a, .int z_length, .int z_kind, .int z_numbers, .int z_items, .int z_kindsTold])), (z_letters_a, .inl (cy 0, 120, .inl z_letters))]) (t_Ba_becomeAsAtFirst l G cy kz N0  o0 o0_periods o0_draft o0_cap o0_time o0_volume o0_fails o0_lacking o0_spilt o0_inflows_a o0_inflows o0_losses_a o0_losses z1 hz1 (fun w => w = [(o0, .inr (0, [.ref o0_inflows_a, .ref o0_losses_a, .int z1.1, .int z1.2.1, .int z1.2.2.1, .int z1.2.2.2.1, .int z1.2.2.2.2.1, .int z1.2.2.2.2.2.1, .int z1.2.2.2.2.2.2.1, .int z1.2.2.2.2.2.2.2.1])), (o0_inflows_a, .inl (cy 0, 12, .inl z1.2.2.2.2.2.2.2.2.1)), (o0_losses_a, .inl (cy 0, 10, .inl z1.2.2.2.2.2.2.2.2.2))]) rfl) hx hb hml hown hB hE hN hNA m_262 m_263 m_264 m_2 m_265 hdV_Ba_becomeAsAtFirst ⟨Nat.le_of_ble_eq_true rfl, Nat.le_of_ble_eq_true rfl, Nat.le_of_ble_eq_true rfl, Nat.le_of_ble_eq_true rfl⟩ hP hD hS hA 2 0 rfl rfl rfl [2, 3, 4] [0, 1] rfl rfl (by decide) (by decide) hl.1 rfl (Nat.le_of_ble_eq_true rfl) d_Te_readInto_1 (fun _ H locs hw hP hD hS => ?_)
  subst hw
  replace hP : va_P G classes [(z, .inr (6, [.ref z_letters_a, .int z_length, .int z_kind, .int z_numbers, .int z_items, .int z_kindsTold])), (z_letters_a, .inl (cy 0, 120, .inl z_letters)), (o0, .inr (0, [.ref o0_inflows_a, .ref o0_losses_a, .int z1.1, .int z1.2.1, .int z1.2.2.1, .int z1.2.2.2.1, .int z1.2.2.2.2.1, .int z1.2.2.2.2.2.1, .int z1.2.2.2.2.2.2.1, .int z1.2.2.2.2.2.2.2.1])), (o0_inflows_a, .inl (cy 0, 12, .inl z1.2.2.2.2.2.2.2.2.1)), (o0_losses_a, .inl (cy 0, 10, .inl z1.2.2.2.2.2.2.2.2.2))] H := hP.sub [0, 1, 2, 3, 4] rfl
  replace hD : va_D A [(z, .inr (6, [.ref z_letters_a, .int z_length, .int z_kind, .int z_numbers, .int z_items, .int z_kindsTold])), (z_letters_a, .inl (cy 0, 120, .inl z_letters)), (o0, .inr (0, [.ref o0_inflows_a, .ref o0_losses_a, .int z1.1, .int z1.2.1, .int z1.2.2.1, .int z1.2.2.2.1, .int z1.2.2.2.2.1, .int z1.2.2.2.2.2.1, .int z1.2.2.2.2.2.2.1, .int z1.2.2.2.2.2.2.2.1])), (o0_inflows_a, .inl (cy 0, 12, .inl z1.2.2.2.2.2.2.2.2.1)), (o0_losses_a, .inl (cy 0, 10, .inl z1.2.2.2.2.2.2.2.2.2))] := hD.sub [0, 1, 2, 3, 4] (by decide) rfl
  refine lv_aload_n hx hb d_Te_readInto_4 rfl (lv_at hl 0 rfl) ?_
  refine lv_iconst (v := (-1 : Int32)) hx hb d_Te_readInto_5 (by decide) ?_
  refine va_put (D := G) (ci := 6) (v := .int (-1 : Int32)) (ty := .int) (C := "YieldDesk$TellText") (T := F_Te) (N := 6) hx hb hB fi_Te ft_Te fo_Te fn_Te hown hE.1 hP hD hS 0 rfl rfl 2 (by decide) (hB _ m_83) (fun _ h9 => h9) rfl (by decide +kernel) rfl rfl (Nat.le_of_ble_eq_true rfl) d_Te_readInto_6 (fun H locs hP hD hS => ?_)
  have hP : va_P G classes [(z, .inr (6, [.ref z_letters_a, .int z_length, .int (-1 : Int32), .int z_numbers, .int z_items, .int z_kindsTold])), (z_letters_a, .inl (cy 0, 120, .inl z_letters)), (o0, .inr (0, [.ref o0_inflows_a, .ref o0_losses_a, .int z1.1, .int z1.2.1, .int z1.2.2.1, .int z1.2.2.2.1, .int z1.2.2.2.2.1, .int z1.2.2.2.2.2.1, .int z1.2.2.2.2.2.2.1, .int z1.2.2.2.2.2.2.2.1])), (o0_inflows_a, .inl (cy 0, 12, .inl z1.2.2.2.2.2.2.2.2.1)), (o0_losses_a, .inl (cy 0, 10, .inl z1.2.2.2.2.2.2.2.2.2))] H := hP
  have hD : va_D A [(z, .inr (6, [.ref z_letters_a, .int z_length, .int (-1 : Int32), .int z_numbers, .int z_items, .int z_kindsTold])), (z_letters_a, .inl (cy 0, 120, .inl z_letters)), (o0, .inr (0, [.ref o0_inflows_a, .ref o0_losses_a, .int z1.1, .int z1.2.1, .int z1.2.2.1, .int z1.2.2.2.1, .int z1.2.2.2.2.1, .int z1.2.2.2.2.2.1, .int z1.2.2.2.2.2.2.1, .int z1.2.2.2.2.2.2.2.1])), (o0_inflows_a, .inl (cy 0, 12, .inl z1.2.2.2.2.2.2.2.2.1)), (o0_losses_a, .inl (cy 0, 10, .inl z1.2.2.2.2.2.2.2.2.2))] := hD
  refine lv_aload_n hx hb d_Te_readInto_9 rfl (lv_at hl 0 rfl) ?_
  refine lv_iconst (v := (0 : Int32)) hx hb d_Te_readInto_10 (by decide) ?_
  refine va_put (D := G) (ci := 6) (v := .int (0 : Int32)) (ty := .int) (C := "YieldDesk$TellText") (T := F_Te) (N := 6) hx hb hB fi_Te ft_Te fo_Te fn_Te hown hE.1 hP hD hS 0 rfl rfl 3 (by decide) (hB _ m_84) (fun _ h9 => h9) rfl (by decide +kernel) rfl rfl (Nat.le_of_ble_eq_true rfl) d_Te_readInto_11 (fun H locs hP hD hS => ?_)
  have hP : va_P G classes [(z, .inr (6, [.ref z_letters_a, .int z_length, .int (-1 : Int32), .int (0 : Int32), .int z_items, .int z_kindsTold])), (z_letters_a, .inl (cy 0, 120, .inl z_letters)), (o0, .inr (0, [.ref o0_inflows_a, .ref o0_losses_a, .int z1.1, .int z1.2.1, .int z1.2.2.1, .int z1.2.2.2.1, .int z1.2.2.2.2.1, .int z1.2.2.2.2.2.1, .int z1.2.2.2.2.2.2.1, .int z1.2.2.2.2.2.2.2.1])), (o0_inflows_a, .inl (cy 0, 12, .inl z1.2.2.2.2.2.2.2.2.1)), (o0_losses_a, .inl (cy 0, 10, .inl z1.2.2.2.2.2.2.2.2.2))] H := hP
  have hD : va_D A [(z, .inr (6, [.ref z_letters_a, .int z_length, .int (-1 : Int32), .int (0 : Int32), .int z_items, .int z_kindsTold])), (z_letters_a, .inl (cy 0, 120, .inl z_letters)), (o0, .inr (0, [.ref o0_inflows_a, .ref o0_losses_a, .int z1.1, .int z1.2.1, .int z1.2.2.1, .int z1.2.2.2.1, .int z1.2.2.2.2.1, .int z1.2.2.2.2.2.1, .int z1.2.2.2.2.2.2.1, .int z1.2.2.2.2.2.2.2.1])), (o0_inflows_a, .inl (cy 0, 12, .inl z1.2.2.2.2.2.2.2.2.1)), (o0_losses_a, .inl (cy 0, 10, .inl z1.2.2.2.2.2.2.2.2.2))] := hD
  refine lv_aload_n hx hb d_Te_readInto_14 rfl (lv_at hl 0 rfl) ?_
  refine lv_iconst (v := (0 : Int32)) hx hb d_Te_readInto_15 (by decide) ?_
  refine va_put (D := G) (ci := 6) (v := .int (0 : Int32)) (ty := .int) (C := "YieldDesk$TellText") (T := F_Te) (N := 6) hx hb hB fi_Te ft_Te fo_Te fn_Te hown hE.1 hP hD hS 0 rfl rfl 4 (by decide) (hB _ m_85) (fun _ h9 => h9) rfl (by decide +kernel) rfl rfl (Nat.le_of_ble_eq_true rfl) d_Te_readInto_16 (fun H locs hP hD hS => ?_)
  have hP : va_P G classes [(z, .inr (6, [.ref z_letters_a, .int z_length, .int (-1 : Int32), .int (0 : Int32), .int (0 : Int32), .int z_kindsTold])), (z_letters_a, .inl (cy 0, 120, .inl z_letters)), (o0, .inr (0, [.ref o0_inflows_a, .ref o0_losses_a, .int z1.1, .int z1.2.1, .int z1.2.2.1, .int z1.2.2.2.1, .int z1.2.2.2.2.1, .int z1.2.2.2.2.2.1, .int z1.2.2.2.2.2.2.1, .int z1.2.2.2.2.2.2.2.1])), (o0_inflows_a, .inl (cy 0, 12, .inl z1.2.2.2.2.2.2.2.2.1)), (o0_losses_a, .inl (cy 0, 10, .inl z1.2.2.2.2.2.2.2.2.2))] H := hP
  have hD : va_D A [(z, .inr (6, [.ref z_letters_a, .int z_length, .int (-1 : Int32), .int (0 : Int32), .int (0 : Int32), .int z_kindsTold])), (z_letters_a, .inl (cy 0, 120, .inl z_letters)), (o0, .inr (0, [.ref o0_inflows_a, .ref o0_losses_a, .int z1.1, .int z1.2.1, .int z1.2.2.1, .int z1.2.2.2.1, .int z1.2.2.2.2.1, .int z1.2.2.2.2.2.1, .int z1.2.2.2.2.2.2.1, .int z1.2.2.2.2.2.2.2.1])), (o0_inflows_a, .inl (cy 0, 12, .inl z1.2.2.2.2.2.2.2.2.1)), (o0_losses_a, .inl (cy 0, 10, .inl z1.2.2.2.2.2.2.2.2.2))] := hD
  refine lv_aload_n hx hb d_Te_readInto_19 rfl (lv_at hl 0 rfl) ?_
  refine lv_iconst (v := (0 : Int32)) hx hb d_Te_readInto_20 (by decide) ?_
  refine va_put (D := G) (ci := 6) (v := .int (0 : Int32)) (ty := .int) (C := "YieldDesk$TellText") (T := F_Te) (N := 6) hx hb hB fi_Te ft_Te fo_Te fn_Te hown hE.1 hP hD hS 0 rfl rfl 5 (by decide) (hB _ m_86) (fun _ h9 => h9) rfl (by decide +kernel) rfl rfl (Nat.le_of_ble_eq_true rfl) d_Te_readInto_21 (fun H locs hP hD hS => ?_)
  have hP : va_P G classes [(z, .inr (6, [.ref z_letters_a, .int z_length, .int (-1 : Int32), .int (0 : Int32), .int (0 : Int32), .int (0 : Int32)])), (z_letters_a, .inl (cy 0, 120, .inl z_letters)), (o0, .inr (0, [.ref o0_inflows_a, .ref o0_losses_a, .int z1.1, .int z1.2.1, .int z1.2.2.1, .int z1.2.2.2.1, .int z1.2.2.2.2.1, .int z1.2.2.2.2.2.1, .int z1.2.2.2.2.2.2.1, .int z1.2.2.2.2.2.2.2.1])), (o0_inflows_a, .inl (cy 0, 12, .inl z1.2.2.2.2.2.2.2.2.1)), (o0_losses_a, .inl (cy 0, 10, .inl z1.2.2.2.2.2.2.2.2.2))] H := hP
  have hD : va_D A [(z, .inr (6, [.ref z_letters_a, .int z_length, .int (-1 : Int32), .int (0 : Int32), .int (0 : Int32), .int (0 : Int32)])), (z_letters_a, .inl (cy 0, 120, .inl z_letters)), (o0, .inr (0, [.ref o0_inflows_a, .ref o0_losses_a, .int z1.1, .int z1.2.1, .int z1.2.2.1, .int z1.2.2.2.1, .int z1.2.2.2.2.1, .int z1.2.2.2.2.2.1, .int z1.2.2.2.2.2.2.1, .int z1.2.2.2.2.2.2.2.1])), (o0_inflows_a, .inl (cy 0, 12, .inl z1.2.2.2.2.2.2.2.2.1)), (o0_losses_a, .inl (cy 0, 10, .inl z1.2.2.2.2.2.2.2.2.2))] := hD
  refine lv_iconst (v := (0 : Int32)) hx hb d_Te_readInto_24 (by decide) ?_
  refine lv_istore_n (lv' := [(2, .int (0 : Int32)), (0, .ref z), (1, .ref o0)]) hx hb d_Te_readInto_25 rfl hl (by decide) rfl (fun ls hl => ?_)
  refine lv_iconst (v := (0 : Int32)) hx hb d_Te_readInto_26 (by decide) ?_
  refine lv_istore_n (lv' := [(3, .int (0 : Int32)), (2, .int (0 : Int32)), (0, .ref z), (1, .ref o0)]) hx hb d_Te_readInto_27 rfl hl (by decide) rfl (fun ls hl => ?_)
  obtain ⟨z5, hz5, hf⟩ := obn hf
  have K2 : ∀ x6, z5 = .inl x6 → ∀ (H : Heap) (locs : List Loc), va_P G classes [(z, .inr (6, [.ref z_letters_a, .int z_length, .int x6.2.2.1, .int x6.2.2.2.1, .int x6.2.2.2.2.1, .int x6.2.2.2.2.2.1])), (z_letters_a, .inl (cy 0, 120, .inl z_letters)), (o0, .inr (0, [.ref o0_inflows_a, .ref o0_losses_a, .int x6.2.2.2.2.2.2.1, .int x6.2.2.2.2.2.2.2.1, .int x6.2.2.2.2.2.2.2.2.1, .int z1.2.2.2.1, .int z1.2.2.2.2.1, .int z1.2.2.2.2.2.1, .int z1.2.2.2.2.2.2.1, .int z1.2.2.2.2.2.2.2.1])), (o0_inflows_a, .inl (cy 0, 12, .inl x6.2.2.2.2.2.2.2.2.2.1)), (o0_losses_a, .inl (cy 0, 10, .inl x6.2.2.2.2.2.2.2.2.2.2))] H → va_D A [(z, .inr (6, [.ref z_letters_a, .int z_length, .int x6.2.2.1, .int x6.2.2.2.1, .int x6.2.2.2.2.1, .int x6.2.2.2.2.2.1])), (z_letters_a, .inl (cy 0, 120, .inl z_letters)), (o0, .inr (0, [.ref o0_inflows_a, .ref o0_losses_a, .int x6.2.2.2.2.2.2.1, .int x6.2.2.2.2.2.2.2.1, .int x6.2.2.2.2.2.2.2.2.1, .int z1.2.2.2.1, .int z1.2.2.2.2.1, .int z1.2.2.2.2.2.1, .int z1.2.2.2.2.2.2.1, .int z1.2.2.2.2.2.2.2.1])), (o0_inflows_a, .inl (cy 0, 12, .inl x6.2.2.2.2.2.2.2.2.2.1)), (o0_losses_a, .inl (cy 0, 10, .inl x6.2.2.2.2.2.2.2.2.2.2))] → va_S A s.heap H locs → ∀ (ls : Array Slot), lv_has ls 4 [(0, .ref z), (1, .ref o0), (2, .int x6.1), (3, .int x6.2.1)] → W p l e (RM 4 0 0) s m ([.ref z, .ref o0] : List Value).toArray below meth c H locs 0 0 (MQ below (CQ G (some (.int out.1)) Bp A) ([.ref z, .ref o0] : List Value).toArray s 0 0 A) (F0 m 81 ls []) := by
    intro x6 ez5 H locs hP hD hS ls hl
    subst ez5
    replace hf := sml hf
    refine lv_aload_n hx hb d_Te_readInto_81 rfl (lv_at hl 0 rfl) ?_
    refine va_get (D := G) (ci := 6) (v := .int x6.2.2.1) (C := "YieldDesk$TellText") (T := F_Te) (N := 6) hx hb hB fi_Te hown hE.1 hP 0 rfl rfl 2 (by decide) (hB _ m_83) (fun _ h9 => h9) rfl d_Te_readInto_82 ?_
    refine lv_iconst (v := (-1 : Int32)) hx hb d_Te_readInto_85 (by decide) ?_
    refine lv_icmp_eq (tgt := 97) hx hb d_Te_readInto_86 (by decide) (fun hc7 => ?_) (fun hc7 => ?_)
    · replace hf := iteP hc7 hf
      refine lv_aload_n hx hb d_Te_readInto_97 rfl (lv_at hl 1 rfl) ?_
      refine lv_aload_n hx hb d_Te_readInto_98 rfl (lv_at hl 1 rfl) ?_
      refine va_getN (D := G) (ci := 0) (v := .int x6.2.2.2.2.2.2.2.2.1) (C := "YieldDesk$Basin") (T := F_Ba) (N := 10) hx hb hB fi_Ba hown hE.1 hP 2 rfl rfl 4 (by decide) (va_Nw.use rfl (hE.2.1.1 _ (List.mem_of_getElem? (i := 7) rfl))) (fun _ h9 => h9) rfl d_Te_readInto_99 ?_
      refine va_putN (D := G) (ci := 0) (v := .int x6.2.2.2.2.2.2.2.2.1) (ty := .int) (C := "YieldDesk$Basin") (T := F_Ba) (N := 10) hx hb hB fi_Ba ft_Ba fo_Ba fn_Ba hown hE.1 hP hD hS 2 rfl rfl 6 (by decide) (va_Nw.use rfl (hE.2.1.1 _ (List.mem_of_getElem? (i := 11) rfl))) (fun _ h9 => h9) rfl (by decide +kernel) rfl rfl (Nat.le_of_ble_eq_true rfl) d_Te_readInto_102 (fun H locs hP hD hS => ?_)
      have hP : va_P G classes [(z, .inr (6, [.ref z_letters_a, .int z_length, .int x6.2.2.1, .int x6.2.2.2.1, .int x6.2.2.2.2.1, .int x6.2.2.2.2.2.1])), (z_letters_a, .inl (cy 0, 120, .inl z_letters)), (o0, .inr (0, [.ref o0_inflows_a, .ref o0_losses_a, .int x6.2.2.2.2.2.2.1, .int x6.2.2.2.2.2.2.2.1, .int x6.2.2.2.2.2.2.2.2.1, .int z1.2.2.2.1, .int x6.2.2.2.2.2.2.2.2.1, .int z1.2.2.2.2.2.1, .int z1.2.2.2.2.2.2.1, .int z1.2.2.2.2.2.2.2.1])), (o0_inflows_a, .inl (cy 0, 12, .inl x6.2.2.2.2.2.2.2.2.2.1)), (o0_losses_a, .inl (cy 0, 10, .inl x6.2.2.2.2.2.2.2.2.2.2))] H := hP
      have hD : va_D A [(z, .inr (6, [.ref z_letters_a, .int z_length, .int x6.2.2.1, .int x6.2.2.2.1, .int x6.2.2.2.2.1, .int x6.2.2.2.2.2.1])), (z_letters_a, .inl (cy 0, 120, .inl z_letters)), (o0, .inr (0, [.ref o0_inflows_a, .ref o0_losses_a, .int x6.2.2.2.2.2.2.1, .int x6.2.2.2.2.2.2.2.1, .int x6.2.2.2.2.2.2.2.2.1, .int z1.2.2.2.1, .int x6.2.2.2.2.2.2.2.2.1, .int z1.2.2.2.2.2.1, .int z1.2.2.2.2.2.2.1, .int z1.2.2.2.2.2.2.2.1])), (o0_inflows_a, .inl (cy 0, 12, .inl x6.2.2.2.2.2.2.2.2.2.1)), (o0_losses_a, .inl (cy 0, 10, .inl x6.2.2.2.2.2.2.2.2.2.2))] := hD
      refine lv_aload_n hx hb d_Te_readInto_105 rfl (lv_at hl 0 rfl) ?_
      refine va_get (D := G) (ci := 6) (v := .int x6.2.2.2.2.1) (C := "YieldDesk$TellText") (T := F_Te) (N := 6) hx hb hB fi_Te hown hE.1 hP 0 rfl rfl 4 (by decide) (hB _ m_85) (fun _ h9 => h9) rfl d_Te_readInto_106 ?_
      obtain rfl := Option.some.inj hf
      exact W.iret hx hb hr (x_ret hP hD hS hBp) hS.2.2 d_Te_readInto_109
    · replace hf := iteN hc7 hf
      refine lv_bipush (v := (-10 : Int32)) hx hb d_Te_readInto_89 (by decide) ?_
      refine lv_aload_n hx hb d_Te_readInto_91 rfl (lv_at hl 0 rfl) ?_
      refine va_get (D := G) (ci := 6) (v := .int z_length) (C := "YieldDesk$TellText") (T := F_Te) (N := 6) hx hb hB fi_Te hown hE.1 hP 0 rfl rfl 1 (by decide) (hB _ m_81) (fun _ h9 => h9) rfl d_Te_readInto_92 ?_
      refine lv_isub hx hb d_Te_readInto_95 ?_
      obtain rfl := Option.some.inj hf
      exact W.iret hx hb hr (x_ret hP hD hS hBp) hS.2.2 d_Te_readInto_96
  have K3 : ∀ r, z5 = .inr r → some r = some out := by
    intro r ez5
    subst ez5
    exact smr hf
  clear hf
  have L4 : ∀ (n : Nat) (i2_28 : Int32) (i3_28 : Int32) (z_kind_28 : Int32) (z_numbers_28 : Int32) (z_items_28 : Int32) (z_kindsTold_28 : Int32) (o0_periods_28 : Int32) (o0_draft_28 : Int32) (o0_cap_28 : Int32) (o0_inflows_28 : Nat → Int32) (o0_losses_28 : Nat → Int32), f_Te_readInto_L28 z_length z_letters z1 n i2_28 i3_28 z_kind_28 z_numbers_28 z_items_28 z_kindsTold_28 o0_periods_28 o0_draft_28 o0_cap_28 o0_inflows_28 o0_losses_28 = some z5 → ∀ (H : Heap) (locs : List Loc), va_P G classes [(z, .inr (6, [.ref z_letters_a, .int z_length, .int z_kind_28, .int z_numbers_28, .int z_items_28, .int z_kindsTold_28])), (z_letters_a, .inl (cy 0, 120, .inl z_letters)), (o0, .inr (0, [.ref o0_inflows_a, .ref o0_losses_a, .int o0_periods_28, .int o0_draft_28, .int o0_cap_28, .int z1.2.2.2.1, .int z1.2.2.2.2.1, .int z1.2.2.2.2.2.1, .int z1.2.2.2.2.2.2.1, .int z1.2.2.2.2.2.2.2.1])), (o0_inflows_a, .inl (cy 0, 12, .inl o0_inflows_28)), (o0_losses_a, .inl (cy 0, 10, .inl o0_losses_28))] H → va_D A [(z, .inr (6, [.ref z_letters_a, .int z_length, .int z_kind_28, .int z_numbers_28, .int z_items_28, .int z_kindsTold_28])), (z_letters_a, .inl (cy 0, 120, .inl z_letters)), (o0, .inr (0, [.ref o0_inflows_a, .ref o0_losses_a, .int o0_periods_28, .int o0_draft_28, .int o0_cap_28, .int z1.2.2.2.1, .int z1.2.2.2.2.1, .int z1.2.2.2.2.2.1, .int z1.2.2.2.2.2.2.1, .int z1.2.2.2.2.2.2.2.1])), (o0_inflows_a, .inl (cy 0, 12, .inl o0_inflows_28)), (o0_losses_a, .inl (cy 0, 10, .inl o0_losses_28))] → va_S A s.heap H locs → ∀ (ls : Array Slot), lv_has ls 4 [(0, .ref z), (1, .ref o0), (2, .int i2_28), (3, .int i3_28)] → W p l e (RM 4 0 0) s m ([.ref z, .ref o0] : List Value).toArray below meth c H locs 0 0 (MQ below (CQ G (some (.int out.1)) Bp A) ([.ref z, .ref o0] : List Value).toArray s 0 0 A) (F0 m 28 ls []) := by
    intro n
    induction n with
    | zero => intro i2_28 i3_28 z_kind_28 z_numbers_28 z_items_28 z_kindsTold_28 o0_periods_28 o0_draft_28 o0_cap_28 o0_inflows_28 o0_losses_28 hf; exact absurd ((f_Te_readInto_L28_z z_length z_letters z1 i2_28 i3_28 z_kind_28 z_numbers_28 z_items_28 z_kindsTold_28 o0_periods_28 o0_draft_28 o0_cap_28 o0_inflows_28 o0_losses_28).symm.trans hf) (by intro h; cases h)
    | succ n ih =>
      intro i2_28 i3_28 z_kind_28 z_numbers_28 z_items_28 z_kindsTold_28 o0_periods_28 o0_draft_28 o0_cap_28 o0_inflows_28 o0_losses_28 hf H locs hP hD hS ls hl
      replace hf := (f_Te_readInto_L28_s z_length z_letters z1 n i2_28 i3_28 z_kind_28 z_numbers_28 z_items_28 z_kindsTold_28 o0_periods_28 o0_draft_28 o0_cap_28 o0_inflows_28 o0_losses_28).symm.trans hf
      refine lv_iload_n hx hb d_Te_readInto_28 rfl (lv_at hl 3 rfl) ?_
      refine lv_aload_n hx hb d_Te_readInto_29 rfl (lv_at hl 0 rfl) ?_
      refine va_get (D := G) (ci := 6) (v := .int z_length) (C := "YieldDesk$TellText") (T := F_Te) (N := 6) hx hb hB fi_Te hown hE.1 hP 0 rfl rfl 1 (by decide) (hB _ m_81) (fun _ h9 => h9) rfl d_Te_readInto_30 ?_
      refine lv_icmp_ge (tgt := 81) hx hb d_Te_readInto_33 (by decide) (fun hc8 => ?_) (fun hc8 => ?_)
      · replace hf := iteP hc8 hf
        obtain rfl := Option.some.inj hf
        exact K2 _ rfl _ _ hP hD hS _ (lv_sub hl [0, 1, 2, 3] rfl)
      · replace hf := iteN hc8 hf
        refine lv_iload_n hx hb d_Te_readInto_36 rfl (lv_at hl 3 rfl) ?_
        refine lv_iload_n hx hb d_Te_readInto_37 rfl (lv_at hl 2 rfl) ?_
        refine lv_icmp_lt (tgt := 75) hx hb d_Te_readInto_38 (by decide) (fun hc9 => ?_) (fun hc9 => ?_)
        · replace hf := iteP hc9 hf
          refine lv_iinc (v := (i3_28 + (1 : Int32))) (lv' := [(3, .int (i3_28 + (1 : Int32))), (0, .ref z), (1, .ref o0), (2, .int i2_28)]) hx hb d_Te_readInto_75 hl (k := 3) rfl rfl (by decide) rfl (fun ls hl => ?_)
          refine lv_goto (tgt := 28) hx hb d_Te_readInto_78 (by decide) ?_
          exact ih i2_28 (i3_28 + (1 : Int32)) z_kind_28 z_numbers_28 z_items_28 z_kindsTold_28 o0_periods_28 o0_draft_28 o0_cap_28 o0_inflows_28 o0_losses_28 hf _ _ hP hD hS _ (lv_sub hl [1, 2, 3, 0] rfl)
        · replace hf := iteN hc9 hf
          refine lv_aload_n hx hb d_Te_readInto_41 rfl (lv_at hl 0 rfl) ?_
          refine lv_iload_n hx hb d_Te_readInto_42 rfl (lv_at hl 3 rfl) ?_
          obtain ⟨z10, hz10, hf⟩ := obn hf
          refine x_V (As := [.int i3_28]) (rest := []) (wc := [(z, .inr (6, [.ref z_letters_a, .int z_length, .int z_kind_28, .int z_numbers_28, .int z_items_28, .int z_kindsTold_28])), (z_letters_a, .inl (cy 0, 120, .inl z_letters))]) (wr := [(o0, .inr (0, [.ref o0_inflows_a, .ref o0_losses_a, .int o0_periods_28, .int o0_draft_28, .int o0_cap_28, .int z1.2.2.2.1, .int z1.2.2.2.2.1, .int z1.2.2.2.2.2.1, .int z1.2.2.2.2.2.2.1, .int z1.2.2.2.2.2.2.2.1])), (o0_inflows_a, .inl (cy 0, 12, .inl o0_inflows_28)), (o0_losses_a, .inl (cy 0, 10, .inl o0_losses_28))]) (t_Te_letterAt l G cy kz N0  z z_length z_kind_28 z_numbers_28 z_items_28 z_kindsTold_28 z_letters_a z_letters i3_28 z10 hz10 (fun w => w = [(z, .inr (6, [.ref z_letters_a, .int z_length, .int z_kind_28, .int z_numbers_28, .int z_items_28, .int z_kindsTold_28])), (z_letters_a, .inl (cy 0, 120, .inl z_letters))]) rfl) hx hb hml hown hB hE hN hNA m_266 m_268 mS_Te_letterAt m_3 m_269 hdV_Te_letterAt ⟨Nat.le_of_ble_eq_true rfl, Nat.le_of_ble_eq_true rfl, Nat.le_of_ble_eq_true rfl, Nat.le_of_ble_eq_true rfl⟩ hP hD hS hA 0 6 rfl rfl rfl [0, 1] [2, 3, 4] rfl rfl (by decide) (by decide) hl.1 rfl (Nat.le_of_ble_eq_true rfl) d_Te_readInto_43 (fun _ H locs hw hP hD hS => ?_)
          subst hw
          replace hP : va_P G classes [(z, .inr (6, [.ref z_letters_a, .int z_length, .int z_kind_28, .int z_numbers_28, .int z_items_28, .int z_kindsTold_28])), (z_letters_a, .inl (cy 0, 120, .inl z_letters)), (o0, .inr (0, [.ref o0_inflows_a, .ref o0_losses_a, .int o0_periods_28, .int o0_draft_28, .int o0_cap_28, .int z1.2.2.2.1, .int z1.2.2.2.2.1, .int z1.2.2.2.2.2.1, .int z1.2.2.2.2.2.2.1, .int z1.2.2.2.2.2.2.2.1])), (o0_inflows_a, .inl (cy 0, 12, .inl o0_inflows_28)), (o0_losses_a, .inl (cy 0, 10, .inl o0_losses_28))] H := hP.sub [3, 4, 0, 1, 2] rfl
          replace hD : va_D A [(z, .inr (6, [.ref z_letters_a, .int z_length, .int z_kind_28, .int z_numbers_28, .int z_items_28, .int z_kindsTold_28])), (z_letters_a, .inl (cy 0, 120, .inl z_letters)), (o0, .inr (0, [.ref o0_inflows_a, .ref o0_losses_a, .int o0_periods_28, .int o0_draft_28, .int o0_cap_28, .int z1.2.2.2.1, .int z1.2.2.2.2.1, .int z1.2.2.2.2.2.1, .int z1.2.2.2.2.2.2.1, .int z1.2.2.2.2.2.2.2.1])), (o0_inflows_a, .inl (cy 0, 12, .inl o0_inflows_28)), (o0_losses_a, .inl (cy 0, 10, .inl o0_losses_28))] := hD.sub [3, 4, 0, 1, 2] (by decide) rfl
          refine lv_bipush (v := (32 : Int32)) hx hb d_Te_readInto_46 (by decide) ?_
          refine lv_icmp_ne (tgt := 54) hx hb d_Te_readInto_48 (by decide) (fun hc11 => ?_) (fun hc11 => ?_)
          · replace hf := iteN hc11 hf
            refine lv_aload_n hx hb d_Te_readInto_54 rfl (lv_at hl 0 rfl) ?_
            refine lv_iload_n hx hb d_Te_readInto_55 rfl (lv_at hl 3 rfl) ?_
            obtain ⟨z12, hz12, hf⟩ := obn hf
            refine x_V (As := [.int i3_28]) (rest := []) (wc := [(z, .inr (6, [.ref z_letters_a, .int z_length, .int z_kind_28, .int z_numbers_28, .int z_items_28, .int z_kindsTold_28])), (z_letters_a, .inl (cy 0, 120, .inl z_letters))]) (wr := [(o0, .inr (0, [.ref o0_inflows_a, .ref o0_losses_a, .int o0_periods_28, .int o0_draft_28, .int o0_cap_28, .int z1.2.2.2.1, .int z1.2.2.2.2.1, .int z1.2.2.2.2.2.1, .int z1.2.2.2.2.2.2.1, .int z1.2.2.2.2.2.2.2.1])), (o0_inflows_a, .inl (cy 0, 12, .inl o0_inflows_28)), (o0_losses_a, .inl (cy 0, 10, .inl o0_losses_28))]) (t_Te_endOfToken l G cy kz N0  z z_length z_kind_28 z_numbers_28 z_items_28 z_kindsTold_28 z_letters_a z_letters i3_28 z12 hz12 (fun w => w = [(z, .inr (6, [.ref z_letters_a, .int z_length, .int z_kind_28, .int z_numbers_28, .int z_items_28, .int z_kindsTold_28])), (z_letters_a, .inl (cy 0, 120, .inl z_letters))]) rfl) hx hb hml hown hB hE hN hNA m_274 m_276 mS_Te_endOfToken m_3 m_277 hdV_Te_endOfToken ⟨Nat.le_of_ble_eq_true rfl, Nat.le_of_ble_eq_true rfl, Nat.le_of_ble_eq_true rfl, Nat.le_of_ble_eq_true rfl⟩ hP hD hS hA 0 6 rfl rfl rfl [0, 1] [2, 3, 4] rfl rfl (by decide) (by decide) hl.1 rfl (Nat.le_of_ble_eq_true rfl) d_Te_readInto_56 (fun _ H locs hw hP hD hS => ?_)
            subst hw
            replace hP : va_P G classes [(z, .inr (6, [.ref z_letters_a, .int z_length, .int z_kind_28, .int z_numbers_28, .int z_items_28, .int z_kindsTold_28])), (z_letters_a, .inl (cy 0, 120, .inl z_letters)), (o0, .inr (0, [.ref o0_inflows_a, .ref o0_losses_a, .int o0_periods_28, .int o0_draft_28, .int o0_cap_28, .int z1.2.2.2.1, .int z1.2.2.2.2.1, .int z1.2.2.2.2.2.1, .int z1.2.2.2.2.2.2.1, .int z1.2.2.2.2.2.2.2.1])), (o0_inflows_a, .inl (cy 0, 12, .inl o0_inflows_28)), (o0_losses_a, .inl (cy 0, 10, .inl o0_losses_28))] H := hP.sub [3, 4, 0, 1, 2] rfl
            replace hD : va_D A [(z, .inr (6, [.ref z_letters_a, .int z_length, .int z_kind_28, .int z_numbers_28, .int z_items_28, .int z_kindsTold_28])), (z_letters_a, .inl (cy 0, 120, .inl z_letters)), (o0, .inr (0, [.ref o0_inflows_a, .ref o0_losses_a, .int o0_periods_28, .int o0_draft_28, .int o0_cap_28, .int z1.2.2.2.1, .int z1.2.2.2.2.1, .int z1.2.2.2.2.2.1, .int z1.2.2.2.2.2.2.1, .int z1.2.2.2.2.2.2.2.1])), (o0_inflows_a, .inl (cy 0, 12, .inl o0_inflows_28)), (o0_losses_a, .inl (cy 0, 10, .inl o0_losses_28))] := hD.sub [3, 4, 0, 1, 2] (by decide) rfl
            refine lv_istore_n (lv' := [(2, .int z12), (0, .ref z), (1, .ref o0), (3, .int i3_28)]) hx hb d_Te_readInto_59 rfl hl (by decide) rfl (fun ls hl => ?_)
            refine lv_aload_n hx hb d_Te_readInto_60 rfl (lv_at hl 1 rfl) ?_
            refine lv_iload_n hx hb d_Te_readInto_61 rfl (lv_at hl 3 rfl) ?_
            refine lv_iload_n hx hb d_Te_readInto_62 rfl (lv_at hl 0 rfl) ?_
            refine lv_aload_n hx hb d_Te_readInto_63 rfl (lv_at hl 2 rfl) ?_
            obtain ⟨z13, hz13, hf⟩ := obn hf
            refine x_V (As := [.int i3_28, .int z12, .ref o0]) (rest := []) (wc := [(z, .inr (6, [.ref z_letters_a, .int z_length, .int z_kind_28, .int z_numbers_28, .int z_items_28, .int z_kindsTold_28])), (z_letters_a, .inl (cy 0, 120, .inl z_letters)), (o0, .inr (0, [.ref o0_inflows_a, .ref o0_losses_a, .int o0_periods_28, .int o0_draft_28, .int o0_cap_28, .int z1.2.2.2.1, .int z1.2.2.2.2.1, .int z1.2.2.2.2.2.1, .int z1.2.2.2.2.2.2.1, .int z1.2.2.2.2.2.2.2.1])), (o0_inflows_a, .inl (cy 0, 12, .inl o0_inflows_28)), (o0_losses_a, .inl (cy 0, 10, .inl o0_losses_28))]) (wr := []) (t_Te_takesToken l G cy kz N0  z z_length z_kind_28 z_numbers_28 z_items_28 z_kindsTold_28 z_letters_a z_letters i3_28 z12 o0 o0_periods_28 o0_draft_28 o0_cap_28 z1.2.2.2.1 z1.2.2.2.2.1 z1.2.2.2.2.2.1 z1.2.2.2.2.2.2.1 z1.2.2.2.2.2.2.2.1 o0_inflows_a o0_inflows_28 o0_losses_a o0_losses_28 z13 hz13 (fun w => w = [(z, .inr (6, [.ref z_letters_a, .int z_length, .int z13.2.1, .int z13.2.2.1, .int z13.2.2.2.1, .int z13.2.2.2.2.1])), (z_letters_a, .inl (cy 0, 120, .inl z_letters)), (o0, .inr (0, [.ref o0_inflows_a, .ref o0_losses_a, .int z13.2.2.2.2.2.1, .int z13.2.2.2.2.2.2.1, .int z13.2.2.2.2.2.2.2.1, .int z1.2.2.2.1, .int z1.2.2.2.2.1, .int z1.2.2.2.2.2.1, .int z1.2.2.2.2.2.2.1, .int z1.2.2.2.2.2.2.2.1])), (o0_inflows_a, .inl (cy 0, 12, .inl z13.2.2.2.2.2.2.2.2.1)), (o0_losses_a, .inl (cy 0, 10, .inl z13.2.2.2.2.2.2.2.2.2))]) rfl) hx hb hml hown hB hE hN hNA m_282 m_284 mS_Te_takesToken m_3 m_285 hdV_Te_takesToken ⟨Nat.le_of_ble_eq_true rfl, Nat.le_of_ble_eq_true rfl, Nat.le_of_ble_eq_true rfl, Nat.le_of_ble_eq_true rfl⟩ hP hD hS hA 0 6 rfl rfl rfl [0, 1, 2, 3, 4] [] rfl rfl (by decide) (by decide) hl.1 rfl (Nat.le_of_ble_eq_true rfl) d_Te_readInto_64 (fun _ H locs hw hP hD hS => ?_)
            subst hw
            replace hP : va_P G classes [(z, .inr (6, [.ref z_letters_a, .int z_length, .int z13.2.1, .int z13.2.2.1, .int z13.2.2.2.1, .int z13.2.2.2.2.1])), (z_letters_a, .inl (cy 0, 120, .inl z_letters)), (o0, .inr (0, [.ref o0_inflows_a, .ref o0_losses_a, .int z13.2.2.2.2.2.1, .int z13.2.2.2.2.2.2.1, .int z13.2.2.2.2.2.2.2.1, .int z1.2.2.2.1, .int z1.2.2.2.2.1, .int z1.2.2.2.2.2.1, .int z1.2.2.2.2.2.2.1, .int z1.2.2.2.2.2.2.2.1])), (o0_inflows_a, .inl (cy 0, 12, .inl z13.2.2.2.2.2.2.2.2.1)), (o0_losses_a, .inl (cy 0, 10, .inl z13.2.2.2.2.2.2.2.2.2))] H := hP.sub [0, 1, 2, 3, 4] rfl
            replace hD : va_D A [(z, .inr (6, [.ref z_letters_a, .int z_length, .int z13.2.1, .int z13.2.2.1, .int z13.2.2.2.1, .int z13.2.2.2.2.1])), (z_letters_a, .inl (cy 0, 120, .inl z_letters)), (o0, .inr (0, [.ref o0_inflows_a, .ref o0_losses_a, .int z13.2.2.2.2.2.1, .int z13.2.2.2.2.2.2.1, .int z13.2.2.2.2.2.2.2.1, .int z1.2.2.2.1, .int z1.2.2.2.2.1, .int z1.2.2.2.2.2.1, .int z1.2.2.2.2.2.2.1, .int z1.2.2.2.2.2.2.2.1])), (o0_inflows_a, .inl (cy 0, 12, .inl z13.2.2.2.2.2.2.2.2.1)), (o0_losses_a, .inl (cy 0, 10, .inl z13.2.2.2.2.2.2.2.2.2))] := hD.sub [0, 1, 2, 3, 4] (by decide) rfl
            refine lv_if_ne (tgt := 75) hx hb d_Te_readInto_67 (by decide) (fun hc14 => ?_) (fun hc14 => ?_)
            · replace hf := iteN hc14 hf
              refine lv_iinc (v := (i3_28 + (1 : Int32))) (lv' := [(3, .int (i3_28 + (1 : Int32))), (2, .int z12), (0, .ref z), (1, .ref o0)]) hx hb d_Te_readInto_75 hl (k := 3) rfl rfl (by decide) rfl (fun ls hl => ?_)
              refine lv_goto (tgt := 28) hx hb d_Te_readInto_78 (by decide) ?_
              exact ih z12 (i3_28 + (1 : Int32)) z13.2.1 z13.2.2.1 z13.2.2.2.1 z13.2.2.2.2.1 z13.2.2.2.2.2.1 z13.2.2.2.2.2.2.1 z13.2.2.2.2.2.2.2.1 z13.2.2.2.2.2.2.2.2.1 z13.2.2.2.2.2.2.2.2.2 hf _ _ hP hD hS _ (lv_sub hl [2, 3, 1, 0] rfl)
            · replace hf := iteP hc14 hf
              refine lv_bipush (v := (-10 : Int32)) hx hb d_Te_readInto_70 (by decide) ?_
              refine lv_iload_n hx hb d_Te_readInto_72 rfl (lv_at hl 3 rfl) ?_
              refine lv_isub hx hb d_Te_readInto_73 ?_
              obtain rfl := Option.some.inj hf
              have hf := K3 _ rfl
              obtain rfl := Option.some.inj hf
              exact W.iret hx hb hr (x_ret hP hD hS hBp) hS.2.2 d_Te_readInto_74
          · replace hf := iteP hc11 hf
            refine lv_goto (tgt := 75) hx hb d_Te_readInto_51 (by decide) ?_
            refine lv_iinc (v := (i3_28 + (1 : Int32))) (lv' := [(3, .int (i3_28 + (1 : Int32))), (0, .ref z), (1, .ref o0), (2, .int i2_28)]) hx hb d_Te_readInto_75 hl (k := 3) rfl rfl (by decide) rfl (fun ls hl => ?_)
            refine lv_goto (tgt := 28) hx hb d_Te_readInto_78 (by decide) ?_
            exact ih i2_28 (i3_28 + (1 : Int32)) z_kind_28 z_numbers_28 z_items_28 z_kindsTold_28 o0_periods_28 o0_draft_28 o0_cap_28 o0_inflows_28 o0_losses_28 hf _ _ hP hD hS _ (lv_sub hl [1, 2, 3, 0] rfl)
  exact L4 FU (0 : Int32) (0 : Int32) (-1 : Int32) (0 : Int32) (0 : Int32) (0 : Int32) z1.1 z1.2.1 z1.2.2.1 z1.2.2.2.2.2.2.2.2.1 z1.2.2.2.2.2.2.2.2.2 hz5 _ _ hP hD hS _ (lv_sub hl [2, 3, 1, 0] rfl)
