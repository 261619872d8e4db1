set_option maxHeartbeats 4000000 in
set_option maxRecDepth 100000 in
theorem t_Ye_isOutside (l : Launch) (G : va_G) (cy : Nat → ClassId) (kz : Nat → Nat) (N0 : Nat) (p0 : Int32) (p1 : Int32) (p2 : Int32) (out : Int32) (h0 : f_Ye_isOutside p0 p1 p2 = some out) (Bp : va_W → Prop) (hBp : Bp []) : CT l G cy kz N0 y_Ye_isOutside b_Ye_isOutside 3 (some .boolean) 0 0 0 [.int p0, .int p1, .int p2] [] (some (.int out)) Bp := by
  refine CT.of (by decide) (Nat.le_of_ble_eq_true rfl) ?_
  intro p e s m below meth c A ls hx hb hr hml hB hown hlocks hnm hE hN hA hNA hP hD hS hl
  have hown : s.vm.findClass "YieldDesk" = some m.cls := hown
  have hl : lv_has ls 3 [(0, .int p0), (1, .int p1), (2, .int p2)] := hl
  have hf := h0
  unfold f_Ye_isOutside at hf
  refine lv_iload_n hx hb d_Ye_isOutside_0 rfl (lv_at hl 0 rfl) ?_
  refine lv_iload_n hx hb d_Ye_isOutside_1 rfl (lv_at hl 1 rfl) ?_
  refine lv_icmp_lt (tgt := 10) hx hb d_Ye_isOutside_2 (by decide) (fun hc1 => ?_) (fun hc1 => ?_)
  · replace hf := iteP hc1 hf
    refine lv_iconst (v := (1 : Int32)) hx hb d_Ye_isOutside_10 (by decide) ?_
    refine lv_goto (tgt := 15) hx hb d_Ye_isOutside_11 (by decide) ?_
    obtain rfl := Option.some.inj hf
    exact W.zret (v := (1 : Int32)) hx hb hr (show narrow .boolean (.int (1 : Int32)) = .int (1 : Int32) from rfl) (x_ret hP hD hS hBp) hS.2.2 d_Ye_isOutside_15
  · replace hf := iteN hc1 hf
    refine lv_iload_n hx hb d_Ye_isOutside_5 rfl (lv_at hl 0 rfl) ?_
    refine lv_iload_n hx hb d_Ye_isOutside_6 rfl (lv_at hl 2 rfl) ?_
    refine lv_icmp_le (tgt := 14) hx hb d_Ye_isOutside_7 (by decide) (fun hc2 => ?_) (fun hc2 => ?_)
    · replace hf := iteP hc2 hf
      refine lv_iconst (v := (0 : Int32)) hx hb d_Ye_isOutside_14 (by decide) ?_
      obtain rfl := Option.some.inj hf
      exact W.zret (v := (0 : Int32)) hx hb hr (show narrow .boolean (.int (0 : Int32)) = .int (0 : Int32) from rfl) (x_ret hP hD hS hBp) hS.2.2 d_Ye_isOutside_15
    · replace hf := iteN hc2 hf
      refine lv_iconst (v := (1 : Int32)) hx hb d_Ye_isOutside_10 (by decide) ?_
      refine lv_goto (tgt := 15) hx hb d_Ye_isOutside_11 (by decide) ?_
      obtain rfl := Option.some.inj hf
      exact W.zret (v := (1 : Int32)) hx hb hr (show narrow .boolean (.int (1 : Int32)) = .int (1 : Int32) from rfl) (x_ret hP hD hS hBp) hS.2.2 d_Ye_isOutside_15
set_option maxHeartbeats 4000000 in
set_option maxRecDepth 100000 in
theorem t_Ba_becomeAsAtFirst (l : Launch) (G : va_G) (cy : Nat → ClassId) (kz : Nat → Nat) (N0 : Nat) (z : Nat) (z_periods : Int32) (z_draft : Int32) (z_cap : Int32) (z_time : Int32) (z_volume : Int32) (z_fails : Int32) (z_lacking : Int32) (z_spilt : Int32) (z_inflows_a : Nat) (z_inflows : Nat → Int32) (z_losses_a : Nat) (z_losses : Nat → Int32) (out : Int32 × Int32 × Int32 × Int32 × Int32 × Int32 × Int32 × Int32 × (Nat → Int32) × (Nat → Int32)) (h0 : f_Ba_becomeAsAtFirst z_inflows z_losses = some out) (Bp : va_W → Prop) (hBp : Bp [(z, .inr (0, [.ref z_inflows_a, .ref z_losses_a, .int out.1, .int out.2.1, .int out.2.2.1, .int out.2.2.2.1, .int out.2.2.2.2.1, .int out.2.2.2.2.2.1, .int out.2.2.2.2.2.2.1, .int out.2.2.2.2.2.2.2.1])), (z_inflows_a, .inl (cy 0, 12, .inl out.2.2.2.2.2.2.2.2.1)), (z_losses_a, .inl (cy 0, 10, .inl out.2.2.2.2.2.2.2.2.2))]) : CT l G cy kz N0 y_Ba_becomeAsAtFirst b_Ba_becomeAsAtFirst 2 none 0 0 0 [.ref z] [(z, .inr (0, [.ref z_inflows_a, .ref z_losses_a, .int z_periods, .int z_draft, .int z_cap, .int z_time, .int z_volume, .int z_fails, .int z_lacking, .int z_spilt])), (z_inflows_a, .inl (cy 0, 12, .inl z_inflows)), (z_losses_a, .inl (cy 0, 10, .inl z_losses))] none Bp := by
  refine CT.of (by decide) (Nat.le_of_ble_eq_true rfl) ?_
  intro p e s m below meth c A ls hx hb hr hml hB hown hlocks hnm hE hN hA hNA hP hD hS hl
  have hown : s.vm.findClass "YieldDesk$Basin" = some m.cls := hown
  have hl : lv_has ls 2 [(0, .ref z)] := hl
  have hf := h0
  unfold f_Ba_becomeAsAtFirst at hf
  refine lv_iconst (v := (0 : Int32)) hx hb d_Ba_becomeAsAtFirst_0 (by decide) ?_
  refine lv_istore_n (lv' := [(1, .int (0 : Int32)), (0, .ref z)]) hx hb d_Ba_becomeAsAtFirst_1 rfl hl (by decide) rfl (fun ls hl => ?_)
  obtain ⟨z4, hz4, hf⟩ := obn hf
  have K1 : ∀ (H : Heap) (locs : List Loc), va_P G classes [(z, .inr (0, [.ref z_inflows_a, .ref z_losses_a, .int z_periods, .int z_draft, .int z_cap, .int z_time, .int z_volume, .int z_fails, .int z_lacking, .int z_spilt])), (z_inflows_a, .inl (cy 0, 12, .inl z4.2)), (z_losses_a, .inl (cy 0, 10, .inl z_losses))] H → va_D A [(z, .inr (0, [.ref z_inflows_a, .ref z_losses_a, .int z_periods, .int z_draft, .int z_cap, .int z_time, .int z_volume, .int z_fails, .int z_lacking, .int z_spilt])), (z_inflows_a, .inl (cy 0, 12, .inl z4.2)), (z_losses_a, .inl (cy 0, 10, .inl z_losses))] → va_S A s.heap H locs → ∀ (ls : Array Slot), lv_has ls 2 [(0, .ref z), (1, .int z4.1)] → W p l e (RM 0 0 0) s m ([.ref z] : List Value).toArray below meth c H locs 0 0 (MQ below (CQ G none Bp A) ([.ref z] : List Value).toArray s 0 0 A) (F0 m 21 ls []) := by
    intro H locs hP hD hS ls hl
    refine lv_iconst (v := (0 : Int32)) hx hb d_Ba_becomeAsAtFirst_21 (by decide) ?_
    refine lv_istore_n (lv' := [(1, .int (0 : Int32)), (0, .ref z)]) hx hb d_Ba_becomeAsAtFirst_22 rfl hl (by decide) rfl (fun ls hl => ?_)
    obtain ⟨z8, hz8, hf⟩ := obn hf
    have K5 : ∀ (H : Heap) (locs : List Loc), va_P G classes [(z, .inr (0, [.ref z_inflows_a, .ref z_losses_a, .int z_periods, .int z_draft, .int z_cap, .int z_time, .int z_volume, .int z_fails, .int z_lacking, .int z_spilt])), (z_inflows_a, .inl (cy 0, 12, .inl z4.2)), (z_losses_a, .inl (cy 0, 10, .inl z8.2))] H → va_D A [(z, .inr (0, [.ref z_inflows_a, .ref z_losses_a, .int z_periods, .int z_draft, .int z_cap, .int z_time, .int z_volume, .int z_fails, .int z_lacking, .int z_spilt])), (z_inflows_a, .inl (cy 0, 12, .inl z4.2)), (z_losses_a, .inl (cy 0, 10, .inl z8.2))] → va_S A s.heap H locs → ∀ (ls : Array Slot), lv_has ls 2 [(0, .ref z), (1, .int z8.1)] → W p l e (RM 0 0 0) s m ([.ref z] : List Value).toArray below meth c H locs 0 0 (MQ below (CQ G none Bp A) ([.ref z] : List Value).toArray s 0 0 A) (F0 m 42 ls []) := by
      intro H locs hP hD hS ls hl
      refine lv_aload_n hx hb d_Ba_becomeAsAtFirst_42 rfl (lv_at hl 0 rfl) ?_
      refine lv_iconst (v := (1 : Int32)) hx hb d_Ba_becomeAsAtFirst_43 (by decide) ?_
      refine va_put (D := G) (ci := 0) (v := .int (1 : Int32)) (ty := .int) (C := "YieldDesk$Basin") (T := F_Ba) (N := 10) hx hb hB fi_Ba ft_Ba fo_Ba fn_Ba hown hE.1 hP hD hS 0 rfl rfl 2 (by decide) (hB _ m_28) (fun _ h9 => h9) rfl (by decide +kernel) rfl rfl (Nat.le_of_ble_eq_true rfl) d_Ba_becomeAsAtFirst_44 (fun H locs hP hD hS => ?_)
      have hP : va_P G classes [(z, .inr (0, [.ref z_inflows_a, .ref z_losses_a, .int (1 : Int32), .int z_draft, .int z_cap, .int z_time, .int z_volume, .int z_fails, .int z_lacking, .int z_spilt])), (z_inflows_a, .inl (cy 0, 12, .inl z4.2)), (z_losses_a, .inl (cy 0, 10, .inl z8.2))] H := hP
      have hD : va_D A [(z, .inr (0, [.ref z_inflows_a, .ref z_losses_a, .int (1 : Int32), .int z_draft, .int z_cap, .int z_time, .int z_volume, .int z_fails, .int z_lacking, .int z_spilt])), (z_inflows_a, .inl (cy 0, 12, .inl z4.2)), (z_losses_a, .inl (cy 0, 10, .inl z8.2))] := hD
      refine lv_aload_n hx hb d_Ba_becomeAsAtFirst_47 rfl (lv_at hl 0 rfl) ?_
      refine lv_iconst (v := (0 : Int32)) hx hb d_Ba_becomeAsAtFirst_48 (by decide) ?_
      refine va_put (D := G) (ci := 0) (v := .int (0 : Int32)) (ty := .int) (C := "YieldDesk$Basin") (T := F_Ba) (N := 10) hx hb hB fi_Ba ft_Ba fo_Ba fn_Ba hown hE.1 hP hD hS 0 rfl rfl 3 (by decide) (hB _ m_32) (fun _ h9 => h9) rfl (by decide +kernel) rfl rfl (Nat.le_of_ble_eq_true rfl) d_Ba_becomeAsAtFirst_49 (fun H locs hP hD hS => ?_)
      have hP : va_P G classes [(z, .inr (0, [.ref z_inflows_a, .ref z_losses_a, .int (1 : Int32), .int (0 : Int32), .int z_cap, .int z_time, .int z_volume, .int z_fails, .int z_lacking, .int z_spilt])), (z_inflows_a, .inl (cy 0, 12, .inl z4.2)), (z_losses_a, .inl (cy 0, 10, .inl z8.2))] H := hP
      have hD : va_D A [(z, .inr (0, [.ref z_inflows_a, .ref z_losses_a, .int (1 : Int32), .int (0 : Int32), .int z_cap, .int z_time, .int z_volume, .int z_fails, .int z_lacking, .int z_spilt])), (z_inflows_a, .inl (cy 0, 12, .inl z4.2)), (z_losses_a, .inl (cy 0, 10, .inl z8.2))] := hD
      refine lv_aload_n hx hb d_Ba_becomeAsAtFirst_52 rfl (lv_at hl 0 rfl) ?_
      refine lv_iconst (v := (0 : Int32)) hx hb d_Ba_becomeAsAtFirst_53 (by decide) ?_
      refine va_put (D := G) (ci := 0) (v := .int (0 : Int32)) (ty := .int) (C := "YieldDesk$Basin") (T := F_Ba) (N := 10) hx hb hB fi_Ba ft_Ba fo_Ba fn_Ba hown hE.1 hP hD hS 0 rfl rfl 4 (by decide) (hB _ m_36) (fun _ h9 => h9) rfl (by decide +kernel) rfl rfl (Nat.le_of_ble_eq_true rfl) d_Ba_becomeAsAtFirst_54 (fun H locs hP hD hS => ?_)
      have hP : va_P G classes [(z, .inr (0, [.ref z_inflows_a, .ref z_losses_a, .int (1 : Int32), .int (0 : Int32), .int (0 : Int32), .int z_time, .int z_volume, .int z_fails, .int z_lacking, .int z_spilt])), (z_inflows_a, .inl (cy 0, 12, .inl z4.2)), (z_losses_a, .inl (cy 0, 10, .inl z8.2))] H := hP
      have hD : va_D A [(z, .inr (0, [.ref z_inflows_a, .ref z_losses_a, .int (1 : Int32), .int (0 : Int32), .int (0 : Int32), .int z_time, .int z_volume, .int z_fails, .int z_lacking, .int z_spilt])), (z_inflows_a, .inl (cy 0, 12, .inl z4.2)), (z_losses_a, .inl (cy 0, 10, .inl z8.2))] := hD
      refine lv_aload_n hx hb d_Ba_becomeAsAtFirst_57 rfl (lv_at hl 0 rfl) ?_
      refine lv_iconst (v := (0 : Int32)) hx hb d_Ba_becomeAsAtFirst_58 (by decide) ?_
      refine va_put (D := G) (ci := 0) (v := .int (0 : Int32)) (ty := .int) (C := "YieldDesk$Basin") (T := F_Ba) (N := 10) hx hb hB fi_Ba ft_Ba fo_Ba fn_Ba hown hE.1 hP hD hS 0 rfl rfl 5 (by decide) (hB _ m_41) (fun _ h9 => h9) rfl (by decide +kernel) rfl rfl (Nat.le_of_ble_eq_true rfl) d_Ba_becomeAsAtFirst_59 (fun H locs hP hD hS => ?_)
      have hP : va_P G classes [(z, .inr (0, [.ref z_inflows_a, .ref z_losses_a, .int (1 : Int32), .int (0 : Int32), .int (0 : Int32), .int (0 : Int32), .int z_volume, .int z_fails, .int z_lacking, .int z_spilt])), (z_inflows_a, .inl (cy 0, 12, .inl z4.2)), (z_losses_a, .inl (cy 0, 10, .inl z8.2))] H := hP
      have hD : va_D A [(z, .inr (0, [.ref z_inflows_a, .ref z_losses_a, .int (1 : Int32), .int (0 : Int32), .int (0 : Int32), .int (0 : Int32), .int z_volume, .int z_fails, .int z_lacking, .int z_spilt])), (z_inflows_a, .inl (cy 0, 12, .inl z4.2)), (z_losses_a, .inl (cy 0, 10, .inl z8.2))] := hD
      refine lv_aload_n hx hb d_Ba_becomeAsAtFirst_62 rfl (lv_at hl 0 rfl) ?_
      refine lv_iconst (v := (0 : Int32)) hx hb d_Ba_becomeAsAtFirst_63 (by decide) ?_
      refine va_put (D := G) (ci := 0) (v := .int (0 : Int32)) (ty := .int) (C := "YieldDesk$Basin") (T := F_Ba) (N := 10) hx hb hB fi_Ba ft_Ba fo_Ba fn_Ba hown hE.1 hP hD hS 0 rfl rfl 6 (by decide) (hB _ m_43) (fun _ h9 => h9) rfl (by decide +kernel) rfl rfl (Nat.le_of_ble_eq_true rfl) d_Ba_becomeAsAtFirst_64 (fun H locs hP hD hS => ?_)
      have hP : va_P G classes [(z, .inr (0, [.ref z_inflows_a, .ref z_losses_a, .int (1 : Int32), .int (0 : Int32), .int (0 : Int32), .int (0 : Int32), .int (0 : Int32), .int z_fails, .int z_lacking, .int z_spilt])), (z_inflows_a, .inl (cy 0, 12, .inl z4.2)), (z_losses_a, .inl (cy 0, 10, .inl z8.2))] H := hP
      have hD : va_D A [(z, .inr (0, [.ref z_inflows_a, .ref z_losses_a, .int (1 : Int32), .int (0 : Int32), .int (0 : Int32), .int (0 : Int32), .int (0 : Int32), .int z_fails, .int z_lacking, .int z_spilt])), (z_inflows_a, .inl (cy 0, 12, .inl z4.2)), (z_losses_a, .inl (cy 0, 10, .inl z8.2))] := hD
      refine lv_aload_n hx hb d_Ba_becomeAsAtFirst_67 rfl (lv_at hl 0 rfl) ?_
      refine lv_iconst (v := (0 : Int32)) hx hb d_Ba_becomeAsAtFirst_68 (by decide) ?_
      refine va_put (D := G) (ci := 0) (v := .int (0 : Int32)) (ty := .int) (C := "YieldDesk$Basin") (T := F_Ba) (N := 10) hx hb hB fi_Ba ft_Ba fo_Ba fn_Ba hown hE.1 hP hD hS 0 rfl rfl 7 (by decide) (hB _ m_46) (fun _ h9 => h9) rfl (by decide +kernel) rfl rfl (Nat.le_of_ble_eq_true rfl) d_Ba_becomeAsAtFirst_69 (fun H locs hP hD hS => ?_)
      have hP : va_P G classes [(z, .inr (0, [.ref z_inflows_a, .ref z_losses_a, .int (1 : Int32), .int (0 : Int32), .int (0 : Int32), .int (0 : Int32), .int (0 : Int32), .int (0 : Int32), .int z_lacking, .int z_spilt])), (z_inflows_a, .inl (cy 0, 12, .inl z4.2)), (z_losses_a, .inl (cy 0, 10, .inl z8.2))] H := hP
      have hD : va_D A [(z, .inr (0, [.ref z_inflows_a, .ref z_losses_a, .int (1 : Int32), .int (0 : Int32), .int (0 : Int32), .int (0 : Int32), .int (0 : Int32), .int (0 : Int32), .int z_lacking, .int z_spilt])), (z_inflows_a, .inl (cy 0, 12, .inl z4.2)), (z_losses_a, .inl (cy 0, 10, .inl z8.2))] := hD
      refine lv_aload_n hx hb d_Ba_becomeAsAtFirst_72 rfl (lv_at hl 0 rfl) ?_
      refine lv_iconst (v := (0 : Int32)) hx hb d_Ba_becomeAsAtFirst_73 (by decide) ?_
      refine va_put (D := G) (ci := 0) (v := .int (0 : Int32)) (ty := .int) (C := "YieldDesk$Basin") (T := F_Ba) (N := 10) hx hb hB fi_Ba ft_Ba fo_Ba fn_Ba hown hE.1 hP hD hS 0 rfl rfl 8 (by decide) (hB _ m_48) (fun _ h9 => h9) rfl (by decide +kernel) rfl rfl (Nat.le_of_ble_eq_true rfl) d_Ba_becomeAsAtFirst_74 (fun H locs hP hD hS => ?_)
      have hP : va_P G classes [(z, .inr (0, [.ref z_inflows_a, .ref z_losses_a, .int (1 : Int32), .int (0 : Int32), .int (0 : Int32), .int (0 : Int32), .int (0 : Int32), .int (0 : Int32), .int (0 : Int32), .int z_spilt])), (z_inflows_a, .inl (cy 0, 12, .inl z4.2)), (z_losses_a, .inl (cy 0, 10, .inl z8.2))] H := hP
      have hD : va_D A [(z, .inr (0, [.ref z_inflows_a, .ref z_losses_a, .int (1 : Int32), .int (0 : Int32), .int (0 : Int32), .int (0 : Int32), .int (0 : Int32), .int (0 : Int32), .int (0 : Int32), .int z_spilt])), (z_inflows_a, .inl (cy 0, 12, .inl z4.2)), (z_losses_a, .inl (cy 0, 10, .inl z8.2))] := hD
      refine lv_aload_n hx hb d_Ba_becomeAsAtFirst_77 rfl (lv_at hl 0 rfl) ?_
      refine lv_iconst (v := (0 : Int32)) hx hb d_Ba_becomeAsAtFirst_78 (by decide) ?_
      refine va_put (D := G) (ci := 0) (v := .int (0 : Int32)) (ty := .int) (C := "YieldDesk$Basin") (T := F_Ba) (N := 10) hx hb hB fi_Ba ft_Ba fo_Ba fn_Ba hown hE.1 hP hD hS 0 rfl rfl 9 (by decide) (hB _ m_50) (fun _ h9 => h9) rfl (by decide +kernel) rfl rfl (Nat.le_of_ble_eq_true rfl) d_Ba_becomeAsAtFirst_79 (fun H locs hP hD hS => ?_)
      have hP : va_P G classes [(z, .inr (0, [.ref z_inflows_a, .ref z_losses_a, .int (1 : Int32), .int (0 : Int32), .int (0 : Int32), .int (0 : Int32), .int (0 : Int32), .int (0 : Int32), .int (0 : Int32), .int (0 : Int32)])), (z_inflows_a, .inl (cy 0, 12, .inl z4.2)), (z_losses_a, .inl (cy 0, 10, .inl z8.2))] H := hP
      have hD : va_D A [(z, .inr (0, [.ref z_inflows_a, .ref z_losses_a, .int (1 : Int32), .int (0 : Int32), .int (0 : Int32), .int (0 : Int32), .int (0 : Int32), .int (0 : Int32), .int (0 : Int32), .int (0 : Int32)])), (z_inflows_a, .inl (cy 0, 12, .inl z4.2)), (z_losses_a, .inl (cy 0, 10, .inl z8.2))] := hD
      obtain rfl := Option.some.inj hf
      exact W.vret hx hb hr (x_ret hP hD hS hBp) hS.2.2 d_Ba_becomeAsAtFirst_82
    clear hf
    have L7 : ∀ (n : Nat) (i1_23 : Int32) (z_losses_23 : Nat → Int32), f_Ba_becomeAsAtFirst_L23 n i1_23 z_losses_23 = some z8 → ∀ (H : Heap) (locs : List Loc), va_P G classes [(z, .inr (0, [.ref z_inflows_a, .ref z_losses_a, .int z_periods, .int z_draft, .int z_cap, .int z_time, .int z_volume, .int z_fails, .int z_lacking, .int z_spilt])), (z_inflows_a, .inl (cy 0, 12, .inl z4.2)), (z_losses_a, .inl (cy 0, 10, .inl z_losses_23))] H → va_D A [(z, .inr (0, [.ref z_inflows_a, .ref z_losses_a, .int z_periods, .int z_draft, .int z_cap, .int z_time, .int z_volume, .int z_fails, .int z_lacking, .int z_spilt])), (z_inflows_a, .inl (cy 0, 12, .inl z4.2)), (z_losses_a, .inl (cy 0, 10, .inl z_losses_23))] → va_S A s.heap H locs → ∀ (ls : Array Slot), lv_has ls 2 [(0, .ref z), (1, .int i1_23)] → W p l e (RM 0 0 0) s m ([.ref z] : List Value).toArray below meth c H locs 0 0 (MQ below (CQ G none Bp A) ([.ref z] : List Value).toArray s 0 0 A) (F0 m 23 ls []) := by
      intro n
      induction n with
      | zero => intro i1_23 z_losses_23 hf; exact absurd ((f_Ba_becomeAsAtFirst_L23_z  i1_23 z_losses_23).symm.trans hf) (by intro h; cases h)
      | succ n ih =>
        intro i1_23 z_losses_23 hf H locs hP hD hS ls hl
        replace hf := (f_Ba_becomeAsAtFirst_L23_s  n i1_23 z_losses_23).symm.trans hf
        refine lv_iload_n hx hb d_Ba_becomeAsAtFirst_23 rfl (lv_at hl 1 rfl) ?_
        refine lv_bipush (v := (10 : Int32)) hx hb d_Ba_becomeAsAtFirst_24 (by decide) ?_
        refine lv_icmp_ge (tgt := 42) hx hb d_Ba_becomeAsAtFirst_26 (by decide) (fun hc9 => ?_) (fun hc9 => ?_)
        · replace hf := iteP hc9 hf
          obtain rfl := Option.some.inj hf
          exact K5 _ _ hP hD hS _ (lv_sub hl [0, 1] rfl)
        · replace hf := iteN hc9 hf
          refine lv_aload_n hx hb d_Ba_becomeAsAtFirst_29 rfl (lv_at hl 0 rfl) ?_
          refine va_get (D := G) (ci := 0) (v := .ref z_losses_a) (C := "YieldDesk$Basin") (T := F_Ba) (N := 10) hx hb hB fi_Ba hown hE.1 hP 0 rfl rfl 1 (by decide) (hB _ m_27) (fun _ h9 => h9) rfl d_Ba_becomeAsAtFirst_30 ?_
          refine lv_iload_n hx hb d_Ba_becomeAsAtFirst_33 rfl (lv_at hl 1 rfl) ?_
          refine lv_iconst (v := (0 : Int32)) hx hb d_Ba_becomeAsAtFirst_34 (by decide) ?_
          obtain ⟨hg10, hf⟩ := gdn hf
          refine va_iast hx hb hE.1 hP hD hS 2 0 rfl rfl hg10 d_Ba_becomeAsAtFirst_35 (fun H locs hP hD hS => ?_)
          have hP : va_P G classes [(z, .inr (0, [.ref z_inflows_a, .ref z_losses_a, .int z_periods, .int z_draft, .int z_cap, .int z_time, .int z_volume, .int z_fails, .int z_lacking, .int z_spilt])), (z_inflows_a, .inl (cy 0, 12, .inl z4.2)), (z_losses_a, .inl (cy 0, 10, .inl (upd z_losses_23 i1_23.toNatClampNeg (0 : Int32))))] H := hP
          have hD : va_D A [(z, .inr (0, [.ref z_inflows_a, .ref z_losses_a, .int z_periods, .int z_draft, .int z_cap, .int z_time, .int z_volume, .int z_fails, .int z_lacking, .int z_spilt])), (z_inflows_a, .inl (cy 0, 12, .inl z4.2)), (z_losses_a, .inl (cy 0, 10, .inl (upd z_losses_23 i1_23.toNatClampNeg (0 : Int32))))] := hD
          refine lv_iinc (v := (i1_23 + (1 : Int32))) (lv' := [(1, .int (i1_23 + (1 : Int32))), (0, .ref z)]) hx hb d_Ba_becomeAsAtFirst_36 hl (k := 1) rfl rfl (by decide) rfl (fun ls hl => ?_)
          refine lv_goto (tgt := 23) hx hb d_Ba_becomeAsAtFirst_39 (by decide) ?_
          exact ih (i1_23 + (1 : Int32)) (upd z_losses_23 i1_23.toNatClampNeg (0 : Int32)) hf _ _ hP hD hS _ (lv_sub hl [1, 0] rfl)
    exact L7 FU (0 : Int32) z_losses hz8 _ _ hP hD hS _ (lv_sub hl [1, 0] rfl)
  clear hf
  have L3 : ∀ (n : Nat) (i1_2 : Int32) (z_inflows_2 : Nat → Int32), f_Ba_becomeAsAtFirst_L2 n i1_2 z_inflows_2 = some z4 → ∀ (H : Heap) (locs : List Loc), va_P G classes [(z, .inr (0, [.ref z_inflows_a, .ref z_losses_a, .int z_periods, .int z_draft, .int z_cap, .int z_time, .int z_volume, .int z_fails, .int z_lacking, .int z_spilt])), (z_inflows_a, .inl (cy 0, 12, .inl z_inflows_2)), (z_losses_a, .inl (cy 0, 10, .inl z_losses))] H → va_D A [(z, .inr (0, [.ref z_inflows_a, .ref z_losses_a, .int z_periods, .int z_draft, .int z_cap, .int z_time, .int z_volume, .int z_fails, .int z_lacking, .int z_spilt])), (z_inflows_a, .inl (cy 0, 12, .inl z_inflows_2)), (z_losses_a, .inl (cy 0, 10, .inl z_losses))] → va_S A s.heap H locs → ∀ (ls : Array Slot), lv_has ls 2 [(0, .ref z), (1, .int i1_2)] → W p l e (RM 0 0 0) s m ([.ref z] : List Value).toArray below meth c H locs 0 0 (MQ below (CQ G none Bp A) ([.ref z] : List Value).toArray s 0 0 A) (F0 m 2 ls []) := by
    intro n
    induction n with
    | zero => intro i1_2 z_inflows_2 hf; exact absurd ((f_Ba_becomeAsAtFirst_L2_z  i1_2 z_inflows_2).symm.trans hf) (by intro h; cases h)
    | succ n ih =>
      intro i1_2 z_inflows_2 hf H locs hP hD hS ls hl
      replace hf := (f_Ba_becomeAsAtFirst_L2_s  n i1_2 z_inflows_2).symm.trans hf
      refine lv_iload_n hx hb d_Ba_becomeAsAtFirst_2 rfl (lv_at hl 1 rfl) ?_
      refine lv_bipush (v := (12 : Int32)) hx hb d_Ba_becomeAsAtFirst_3 (by decide) ?_
      refine lv_icmp_ge (tgt := 21) hx hb d_Ba_becomeAsAtFirst_5 (by decide) (fun hc11 => ?_) (fun hc11 => ?_)
      · replace hf := iteP hc11 hf
        obtain rfl := Option.some.inj hf
        exact K1 _ _ hP hD hS _ (lv_sub hl [0, 1] rfl)
      · replace hf := iteN hc11 hf
        refine lv_aload_n hx hb d_Ba_becomeAsAtFirst_8 rfl (lv_at hl 0 rfl) ?_
        refine va_get (D := G) (ci := 0) (v := .ref z_inflows_a) (C := "YieldDesk$Basin") (T := F_Ba) (N := 10) hx hb hB fi_Ba hown hE.1 hP 0 rfl rfl 0 (by decide) (hB _ m_26) (fun _ h9 => h9) rfl d_Ba_becomeAsAtFirst_9 ?_
        refine lv_iload_n hx hb d_Ba_becomeAsAtFirst_12 rfl (lv_at hl 1 rfl) ?_
        refine lv_iconst (v := (0 : Int32)) hx hb d_Ba_becomeAsAtFirst_13 (by decide) ?_
        obtain ⟨hg12, hf⟩ := gdn hf
        refine va_iast hx hb hE.1 hP hD hS 1 0 rfl rfl hg12 d_Ba_becomeAsAtFirst_14 (fun H locs hP hD hS => ?_)
        have hP : va_P G classes [(z, .inr (0, [.ref z_inflows_a, .ref z_losses_a, .int z_periods, .int z_draft, .int z_cap, .int z_time, .int z_volume, .int z_fails, .int z_lacking, .int z_spilt])), (z_inflows_a, .inl (cy 0, 12, .inl (upd z_inflows_2 i1_2.toNatClampNeg (0 : Int32)))), (z_losses_a, .inl (cy 0, 10, .inl z_losses))] H := hP
        have hD : va_D A [(z, .inr (0, [.ref z_inflows_a, .ref z_losses_a, .int z_periods, .int z_draft, .int z_cap, .int z_time, .int z_volume, .int z_fails, .int z_lacking, .int z_spilt])), (z_inflows_a, .inl (cy 0, 12, .inl (upd z_inflows_2 i1_2.toNatClampNeg (0 : Int32)))), (z_losses_a, .inl (cy 0, 10, .inl z_losses))] := hD
        refine lv_iinc (v := (i1_2 + (1 : Int32))) (lv' := [(1, .int (i1_2 + (1 : Int32))), (0, .ref z)]) hx hb d_Ba_becomeAsAtFirst_15 hl (k := 1) rfl rfl (by decide) rfl (fun ls hl => ?_)
        refine lv_goto (tgt := 2) hx hb d_Ba_becomeAsAtFirst_18 (by decide) ?_
        exact ih (i1_2 + (1 : Int32)) (upd z_inflows_2 i1_2.toNatClampNeg (0 : Int32)) hf _ _ hP hD hS _ (lv_sub hl [1, 0] rfl)
  exact L3 FU (0 : Int32) z_inflows hz4 _ _ hP hD hS _ (lv_sub hl [1, 0] rfl)
set_option maxHeartbeats 4000000 in
set_option maxRecDepth 100000 in
theorem t_Ba_addInflow (l : Launch) (G : va_G) (cy : Nat → ClassId) (kz : Nat → Nat) (N0 : Nat) (z : Nat) (z_periods : Int32) (z_draft : Int32) (z_cap : Int32) (z_time : Int32) (z_volume : Int32) (z_fails : Int32) (z_lacking : Int32) (z_spilt : Int32) (z_inflows_a : Nat) (z_inflows : Nat → Int32) (z_losses_a : Nat) (z_losses : Nat → Int32) (p0 : Int32) (p1 : Int32) (out : Int32 × (Nat → Int32)) (h0 : f_Ba_addInflow z_periods z_inflows p0 p1 = some out) (Bp : va_W → Prop) (hBp : Bp [(z, .inr (0, [.ref z_inflows_a, .ref z_losses_a, .int out.1, .int z_draft, .int z_cap, .int z_time, .int z_volume, .int z_fails, .int z_lacking, .int z_spilt])), (z_inflows_a, .inl (cy 0, 12, .inl out.2)), (z_losses_a, .inl (cy 0, 10, .inl z_losses))]) : CT l G cy kz N0 y_Ba_addInflow b_Ba_addInflow 3 none 1 0 0 [.ref z, .int p0, .int p1] [(z, .inr (0, [.ref z_inflows_a, .ref z_losses_a, .int z_periods, .int z_draft, .int z_cap, .int z_time, .int z_volume, .int z_fails, .int z_lacking, .int z_spilt])), (z_inflows_a, .inl (cy 0, 12, .inl z_inflows)), (z_losses_a, .inl (cy 0, 10, .inl z_losses))] none Bp := by
  refine CT.of (by decide) (Nat.le_of_ble_eq_true rfl) ?_
  intro p e s m below meth c A ls hx hb hr hml hB hown hlocks hnm hE hN hA hNA hP hD hS hl
  have hown : s.vm.findClass "YieldDesk$Basin" = some m.cls := hown
  have hl : lv_has ls 3 [(0, .ref z), (1, .int p0), (2, .int p1)] := hl
  have hf := h0
  unfold f_Ba_addInflow at hf
  refine lv_iload_n hx hb d_Ba_addInflow_0 rfl (lv_at hl 1 rfl) ?_
  refine lv_iconst (v := (0 : Int32)) hx hb d_Ba_addInflow_1 (by decide) ?_
  refine lv_bipush (v := (11 : Int32)) hx hb d_Ba_addInflow_2 (by decide) ?_
  obtain ⟨z1, hz1, hf⟩ := obn hf
  refine x_SN0 (As := [.int p0, .int (0 : Int32), .int (11 : Int32)]) (rest := []) (t_Ye_isOutside l G cy kz N0  p0 (0 : Int32) (11 : Int32) z1 hz1 (fun w => w = []) rfl) hx hb hml hown hB hE hN hNA (List.mem_of_getElem? (i := 9) rfl) m_240 m_1 m_241 hdS_Ye_isOutside ⟨Nat.le_of_ble_eq_true rfl, Nat.le_of_ble_eq_true rfl, Nat.le_of_ble_eq_true rfl, Nat.le_of_ble_eq_true rfl⟩ hP hD hS hA hl.1 rfl (Nat.le_of_ble_eq_true rfl) d_Ba_addInflow_4 (fun H locs hP hD hS => ?_)
  refine lv_if_ne (tgt := 24) hx hb d_Ba_addInflow_7 (by decide) (fun hc2 => ?_) (fun hc2 => ?_)
  · replace hf := iteN hc2 hf
    obtain rfl := Option.some.inj hf
    exact W.vret hx hb hr (x_ret hP hD hS hBp) hS.2.2 d_Ba_addInflow_24
  · replace hf := iteP hc2 hf
    refine lv_aload_n hx hb d_Ba_addInflow_10 rfl (lv_at hl 0 rfl) ?_
    refine lv_iload_n hx hb d_Ba_addInflow_11 rfl (lv_at hl 1 rfl) ?_
    refine lv_iconst (v := (1 : Int32)) hx hb d_Ba_addInflow_12 (by decide) ?_
    refine lv_iadd hx hb d_Ba_addInflow_13 ?_
    refine va_put (D := G) (ci := 0) (v := .int (p0 + (1 : Int32))) (ty := .int) (C := "YieldDesk$Basin") (T := F_Ba) (N := 10) hx hb hB fi_Ba ft_Ba fo_Ba fn_Ba hown hE.1 hP hD hS 0 rfl rfl 2 (by decide) (hB _ m_28) (fun _ h9 => h9) rfl (by decide +kernel) rfl rfl (Nat.le_of_ble_eq_true rfl) d_Ba_addInflow_14 (fun H locs hP hD hS => ?_)
    have hP : va_P G classes [(z, .inr (0, [.ref z_inflows_a, .ref z_losses_a, .int (p0 + (1 : Int32)), .int z_draft, .int z_cap, .int z_time, .int z_volume, .int z_fails, .int z_lacking, .int z_spilt])), (z_inflows_a, .inl (cy 0, 12, .inl z_inflows)), (z_losses_a, .inl (cy 0, 10, .inl z_losses))] H := hP
    have hD : va_D A [(z, .inr (0, [.ref z_inflows_a, .ref z_losses_a, .int (p0 + (1 : Int32)), .int z_draft, .int z_cap, .int z_time, .int z_volume, .int z_fails, .int z_lacking, .int z_spilt])), (z_inflows_a, .inl (cy 0, 12, .inl z_inflows)), (z_losses_a, .inl (cy 0, 10, .inl z_losses))] := hD
    refine lv_aload_n hx hb d_Ba_addInflow_17 rfl (lv_at hl 0 rfl) ?_
    refine va_get (D := G) (ci := 0) (v := .ref z_inflows_a) (C := "YieldDesk$Basin") (T := F_Ba) (N := 10) hx hb hB fi_Ba hown hE.1 hP 0 rfl rfl 0 (by decide) (hB _ m_26) (fun _ h9 => h9) rfl d_Ba_addInflow_18 ?_
    refine lv_iload_n hx hb d_Ba_addInflow_21 rfl (lv_at hl 1 rfl) ?_
    refine lv_iload_n hx hb d_Ba_addInflow_22 rfl (lv_at hl 2 rfl) ?_
    obtain ⟨hg3, hf⟩ := gdn hf
    refine va_iast hx hb hE.1 hP hD hS 1 0 rfl rfl hg3 d_Ba_addInflow_23 (fun H locs hP hD hS => ?_)
    have hP : va_P G classes [(z, .inr (0, [.ref z_inflows_a, .ref z_losses_a, .int (p0 + (1 : Int32)), .int z_draft, .int z_cap, .int z_time, .int z_volume, .int z_fails, .int z_lacking, .int z_spilt])), (z_inflows_a, .inl (cy 0, 12, .inl (upd z_inflows p0.toNatClampNeg p1))), (z_losses_a, .inl (cy 0, 10, .inl z_losses))] H := hP
    have hD : va_D A [(z, .inr (0, [.ref z_inflows_a, .ref z_losses_a, .int (p0 + (1 : Int32)), .int z_draft, .int z_cap, .int z_time, .int z_volume, .int z_fails, .int z_lacking, .int z_spilt])), (z_inflows_a, .inl (cy 0, 12, .inl (upd z_inflows p0.toNatClampNeg p1))), (z_losses_a, .inl (cy 0, 10, .inl z_losses))] := hD
    obtain rfl := Option.some.inj hf
    exact W.vret hx hb hr (x_ret hP hD hS hBp) hS.2.2 d_Ba_addInflow_24
set_option maxHeartbeats 4000000 in
set_option maxRecDepth 100000 in
theorem t_Ba_changeLoss (l : Launch) (G : va_G) (cy : Nat → ClassId) (kz : Nat → Nat) (N0 : Nat) (z : Nat) (z_periods : Int32) (z_draft : Int32) (z_cap : Int32) (z_time : Int32) (z_volume : Int32) (z_fails : Int32) (z_lacking : Int32) (z_spilt : Int32) (z_inflows_a : Nat) (z_inflows : Nat → Int32) (z_losses_a : Nat) (z_losses : Nat → Int32) (p0 : Int32) (p1 : Int32) (out : (Nat → Int32)) (h0 : f_Ba_changeLoss z_losses p0 p1 = some out) (Bp : va_W → Prop) (hBp : Bp [(z, .inr (0, [.ref z_inflows_a, .ref z_losses_a, .int z_periods, .int z_draft, .int z_cap, .int z_time, .int z_volume, .int z_fails, .int z_lacking, .int z_spilt])), (z_inflows_a, .inl (cy 0, 12, .inl z_inflows)), (z_losses_a, .inl (cy 0, 10, .inl out))]) : CT l G cy kz N0 y_Ba_changeLoss b_Ba_changeLoss 3 none 1 0 0 [.ref z, .int p0, .int p1] [(z, .inr (0, [.ref z_inflows_a, .ref z_losses_a, .int z_periods, .int z_draft, .int z_cap, .int z_time, .int z_volume, .int z_fails, .int z_lacking, .int z_spilt])), (z_inflows_a, .inl (cy 0, 12, .inl z_inflows)), (z_losses_a, .inl (cy 0, 10, .inl z_losses))] none Bp := by
  refine CT.of (by decide) (Nat.le_of_ble_eq_true rfl) ?_
  intro p e s m below meth c A ls hx hb hr hml hB hown hlocks hnm hE hN hA hNA hP hD hS hl
  have hown : s.vm.findClass "YieldDesk$Basin" = some m.cls := hown
  have hl : lv_has ls 3 [(0, .ref z), (1, .int p0), (2, .int p1)] := hl
  have hf := h0
  unfold f_Ba_changeLoss at hf
  refine lv_iload_n hx hb d_Ba_changeLoss_0 rfl (lv_at hl 1 rfl) ?_
  refine lv_iconst (v := (0 : Int32)) hx hb d_Ba_changeLoss_1 (by decide) ?_
  refine lv_bipush (v := (9 : Int32)) hx hb d_Ba_changeLoss_2 (by decide) ?_
  obtain ⟨z1, hz1, hf⟩ := obn hf
  refine x_SN0 (As := [.int p0, .int (0 : Int32), .int (9 : Int32)]) (rest := []) (t_Ye_isOutside l G cy kz N0  p0 (0 : Int32) (9 : Int32) z1 hz1 (fun w => w = []) rfl) hx hb hml hown hB hE hN hNA (List.mem_of_getElem? (i := 9) rfl) m_240 m_1 m_241 hdS_Ye_isOutside ⟨Nat.le_of_ble_eq_true rfl, Nat.le_of_ble_eq_true rfl, Nat.le_of_ble_eq_true rfl, Nat.le_of_ble_eq_true rfl⟩ hP hD hS hA hl.1 rfl (Nat.le_of_ble_eq_true rfl) d_Ba_changeLoss_4 (fun H locs hP hD hS => ?_)
  refine lv_if_ne (tgt := 17) hx hb d_Ba_changeLoss_7 (by decide) (fun hc2 => ?_) (fun hc2 => ?_)
  · replace hf := iteN hc2 hf
    obtain rfl := Option.some.inj hf
    exact W.vret hx hb hr (x_ret hP hD hS hBp) hS.2.2 d_Ba_changeLoss_17
  · replace hf := iteP hc2 hf
    refine lv_aload_n hx hb d_Ba_changeLoss_10 rfl (lv_at hl 0 rfl) ?_
    refine va_get (D := G) (ci := 0) (v := .ref z_losses_a) (C := "YieldDesk$Basin") (T := F_Ba) (N := 10) hx hb hB fi_Ba hown hE.1 hP 0 rfl rfl 1 (by decide) (hB _ m_27) (fun _ h9 => h9) rfl d_Ba_changeLoss_11 ?_
    refine lv_iload_n hx hb d_Ba_changeLoss_14 rfl (lv_at hl 1 rfl) ?_
    refine lv_iload_n hx hb d_Ba_changeLoss_15 rfl (lv_at hl 2 rfl) ?_
    obtain ⟨hg3, hf⟩ := gdn hf
    refine va_iast hx hb hE.1 hP hD hS 2 0 rfl rfl hg3 d_Ba_changeLoss_16 (fun H locs hP hD hS => ?_)
    have hP : va_P G classes [(z, .inr (0, [.ref z_inflows_a, .ref z_losses_a, .int z_periods, .int z_draft, .int z_cap, .int z_time, .int z_volume, .int z_fails, .int z_lacking, .int z_spilt])), (z_inflows_a, .inl (cy 0, 12, .inl z_inflows)), (z_losses_a, .inl (cy 0, 10, .inl (upd z_losses p0.toNatClampNeg p1)))] H := hP
    have hD : va_D A [(z, .inr (0, [.ref z_inflows_a, .ref z_losses_a, .int z_periods, .int z_draft, .int z_cap, .int z_time, .int z_volume, .int z_fails, .int z_lacking, .int z_spilt])), (z_inflows_a, .inl (cy 0, 12, .inl z_inflows)), (z_losses_a, .inl (cy 0, 10, .inl (upd z_losses p0.toNatClampNeg p1)))] := hD
    obtain rfl := Option.some.inj hf
    exact W.vret hx hb hr (x_ret hP hD hS hBp) hS.2.2 d_Ba_changeLoss_17
set_option maxHeartbeats 4000000 in
set_option maxRecDepth 100000 in
theorem t_Ba_copyFrom (l : Launch) (G : va_G) (cy : Nat → ClassId) (kz : Nat → Nat) (N0 : Nat) (z : Nat) (z_periods : Int32) (z_draft : Int32) (z_cap : Int32) (z_time : Int32) (z_volume : Int32) (z_fails : Int32) (z_lacking : Int32) (z_spilt : Int32) (z_inflows_a : Nat) (z_inflows : Nat → Int32) (z_losses_a : Nat) (z_losses : Nat → Int32) (o0 : Nat) (o0_periods : Int32) (o0_draft : Int32) (o0_cap : Int32) (o0_time : Int32) (o0_volume : Int32) (o0_fails : Int32) (o0_lacking : Int32) (o0_spilt : Int32) (o0_inflows_a : Nat) (o0_inflows : Nat → Int32) (o0_losses_a : Nat) (o0_losses : Nat → Int32) (out : Int32 × Int32 × Int32 × Int32 × Int32 × Int32 × Int32 × Int32 × (Nat → Int32) × (Nat → Int32)) (h0 : f_Ba_copyFrom z_inflows z_losses o0_periods o0_draft o0_cap o0_time o0_volume o0_fails o0_lacking o0_spilt o0_inflows o0_losses = some out) (Bp : va_W → Prop) (hBp : Bp [(z, .inr (0, [.ref z_inflows_a, .ref z_losses_a, .int out.1, .int out.2.1, .int out.2.2.1, .int out.2.2.2.1, .int out.2.2.2.2.1, .int out.2.2.2.2.2.1, .int out.2.2.2.2.2.2.1, .int out.2.2.2.2.2.2.2.1])), (z_inflows_a, .inl (cy 0, 12, .inl out.2.2.2.2.2.2.2.2.1)), (z_losses_a, .inl (cy 0, 10, .inl out.2.2.2.2.2.2.2.2.2)), (o0, .inr (0, [.ref o0_inflows_a, .ref o0_losses_a, .int o0_periods, .int o0_draft, .int o0_cap, .int o0_time, .int o0_volume, .int o0_fails, .int o0_lacking, .int o0_spilt])), (o0_inflows_a, .inl (cy 0, 12, .inl o0_inflows)), (o0_losses_a, .inl (cy 0, 10, .inl o0_losses))]) : CT l G cy kz N0 y_Ba_copyFrom b_Ba_copyFrom 2 none 1 0 0 [.ref z, .ref o0] [(z, .inr (0, [.ref z_inflows_a, .ref z_losses_a, .int z_periods, .int z_draft, .int z_cap, .int z_time, .int z_volume, .int z_fails, .int z_lacking, .int z_spilt])), (z_inflows_a, .inl (cy 0, 12, .inl z_inflows)), (z_losses_a, .inl (cy 0, 10, .inl z_losses)), (o0, .inr (0, [.ref o0_inflows_a, .ref o0_losses_a, .int o0_periods, .int o0_draft, .int o0_cap, .int o0_time, .int o0_volume, .int o0_fails, .int o0_lacking, .int o0_spilt])), (o0_inflows_a, .inl (cy 0, 12, .inl o0_inflows)), (o0_losses_a, .inl (cy 0, 10, .inl o0_losses))] none Bp := by
  refine CT.of (by decide) (Nat.le_of_ble_eq_true rfl) ?_
  intro p e s m below meth c A ls hx hb hr hml hB hown hlocks hnm hE hN hA hNA hP hD hS hl
  have hown : s.vm.findClass "YieldDesk$Basin" = some m.cls := hown
  have hl : lv_has ls 2 [(0, .ref z), (1, .ref o0)] := hl
  have hf := h0
  unfold f_Ba_copyFrom at hf
  refine lv_aload_n hx hb d_Ba_copyFrom_0 rfl (lv_at hl 1 rfl) ?_
  refine va_get (D := G) (ci := 0) (v := .ref o0_inflows_a) (C := "YieldDesk$Basin") (T := F_Ba) (N := 10) hx hb hB fi_Ba hown hE.1 hP 3 rfl rfl 0 (by decide) (hB _ m_26) (fun _ h9 => h9) rfl d_Ba_copyFrom_1 ?_
  refine lv_iconst (v := (0 : Int32)) hx hb d_Ba_copyFrom_4 (by decide) ?_
  refine lv_aload_n hx hb d_Ba_copyFrom_5 rfl (lv_at hl 0 rfl) ?_
  refine va_get (D := G) (ci := 0) (v := .ref z_inflows_a) (C := "YieldDesk$Basin") (T := F_Ba) (N := 10) hx hb hB fi_Ba hown hE.1 hP 0 rfl rfl 0 (by decide) (hB _ m_26) (fun _ h9 => h9) rfl d_Ba_copyFrom_6 ?_
  refine lv_iconst (v := (0 : Int32)) hx hb d_Ba_copyFrom_9 (by decide) ?_
  refine lv_bipush (v := (12 : Int32)) hx hb d_Ba_copyFrom_10 (by decide) ?_
  refine va_copyi hx hb (hml.trans hl.1.symm) hown (hB _ m_327) (hB _ m_329) (hB _ m_328) (hB _ m_11) hE.1 hP hD hS 4 1 0 0 rfl rfl rfl rfl rfl (by decide) (by decide) (by decide) (by decide) (by decide) (fun _ _ => rfl) (Nat.le_of_ble_eq_true rfl) (by decide +kernel) d_Ba_copyFrom_12 (fun H locs hP hD hS => ?_)
  have hP : va_P G classes [(z, .inr (0, [.ref z_inflows_a, .ref z_losses_a, .int z_periods, .int z_draft, .int z_cap, .int z_time, .int z_volume, .int z_fails, .int z_lacking, .int z_spilt])), (z_inflows_a, .inl (cy 0, 12, .inl (va_cpy o0_inflows z_inflows (0 : Int32).toNatClampNeg (0 : Int32).toNatClampNeg (12 : Int32).toNatClampNeg))), (z_losses_a, .inl (cy 0, 10, .inl z_losses)), (o0, .inr (0, [.ref o0_inflows_a, .ref o0_losses_a, .int o0_periods, .int o0_draft, .int o0_cap, .int o0_time, .int o0_volume, .int o0_fails, .int o0_lacking, .int o0_spilt])), (o0_inflows_a, .inl (cy 0, 12, .inl o0_inflows)), (o0_losses_a, .inl (cy 0, 10, .inl o0_losses))] H := hP
  have hD : va_D A [(z, .inr (0, [.ref z_inflows_a, .ref z_losses_a, .int z_periods, .int z_draft, .int z_cap, .int z_time, .int z_volume, .int z_fails, .int z_lacking, .int z_spilt])), (z_inflows_a, .inl (cy 0, 12, .inl (va_cpy o0_inflows z_inflows (0 : Int32).toNatClampNeg (0 : Int32).toNatClampNeg (12 : Int32).toNatClampNeg))), (z_losses_a, .inl (cy 0, 10, .inl z_losses)), (o0, .inr (0, [.ref o0_inflows_a, .ref o0_losses_a, .int o0_periods, .int o0_draft, .int o0_cap, .int o0_time, .int o0_volume, .int o0_fails, .int o0_lacking, .int o0_spilt])), (o0_inflows_a, .inl (cy 0, 12, .inl o0_inflows)), (o0_losses_a, .inl (cy 0, 10, .inl o0_losses))] := hD
  refine lv_aload_n hx hb d_Ba_copyFrom_15 rfl (lv_at hl 1 rfl) ?_
  refine va_get (D := G) (ci := 0) (v := .ref o0_losses_a) (C := "YieldDesk$Basin") (T := F_Ba) (N := 10) hx hb hB fi_Ba hown hE.1 hP 3 rfl rfl 1 (by decide) (hB _ m_27) (fun _ h9 => h9) rfl d_Ba_copyFrom_16 ?_
  refine lv_iconst (v := (0 : Int32)) hx hb d_Ba_copyFrom_19 (by decide) ?_
  refine lv_aload_n hx hb d_Ba_copyFrom_20 rfl (lv_at hl 0 rfl) ?_
  refine va_get (D := G) (ci := 0) (v := .ref z_losses_a) (C := "YieldDesk$Basin") (T := F_Ba) (N := 10) hx hb hB fi_Ba hown hE.1 hP 0 rfl rfl 1 (by decide) (hB _ m_27) (fun _ h9 => h9) rfl d_Ba_copyFrom_21 ?_
  refine lv_iconst (v := (0 : Int32)) hx hb d_Ba_copyFrom_24 (by decide) ?_
  refine lv_bipush (v := (10 : Int32)) hx hb d_Ba_copyFrom_25 (by decide) ?_
  refine va_copyi hx hb (hml.trans hl.1.symm) hown (hB _ m_327) (hB _ m_329) (hB _ m_328) (hB _ m_11) hE.1 hP hD hS 5 2 0 0 rfl rfl rfl rfl rfl (by decide) (by decide) (by decide) (by decide) (by decide) (fun _ _ => rfl) (Nat.le_of_ble_eq_true rfl) (by decide +kernel) d_Ba_copyFrom_27 (fun H locs hP hD hS => ?_)
  have hP : va_P G classes [(z, .inr (0, [.ref z_inflows_a, .ref z_losses_a, .int z_periods, .int z_draft, .int z_cap, .int z_time, .int z_volume, .int z_fails, .int z_lacking, .int z_spilt])), (z_inflows_a, .inl (cy 0, 12, .inl (va_cpy o0_inflows z_inflows (0 : Int32).toNatClampNeg (0 : Int32).toNatClampNeg (12 : Int32).toNatClampNeg))), (z_losses_a, .inl (cy 0, 10, .inl (va_cpy o0_losses z_losses (0 : Int32).toNatClampNeg (0 : Int32).toNatClampNeg (10 : Int32).toNatClampNeg))), (o0, .inr (0, [.ref o0_inflows_a, .ref o0_losses_a, .int o0_periods, .int o0_draft, .int o0_cap, .int o0_time, .int o0_volume, .int o0_fails, .int o0_lacking, .int o0_spilt])), (o0_inflows_a, .inl (cy 0, 12, .inl o0_inflows)), (o0_losses_a, .inl (cy 0, 10, .inl o0_losses))] H := hP
  have hD : va_D A [(z, .inr (0, [.ref z_inflows_a, .ref z_losses_a, .int z_periods, .int z_draft, .int z_cap, .int z_time, .int z_volume, .int z_fails, .int z_lacking, .int z_spilt])), (z_inflows_a, .inl (cy 0, 12, .inl (va_cpy o0_inflows z_inflows (0 : Int32).toNatClampNeg (0 : Int32).toNatClampNeg (12 : Int32).toNatClampNeg))), (z_losses_a, .inl (cy 0, 10, .inl (va_cpy o0_losses z_losses (0 : Int32).toNatClampNeg (0 : Int32).toNatClampNeg (10 : Int32).toNatClampNeg))), (o0, .inr (0, [.ref o0_inflows_a, .ref o0_losses_a, .int o0_periods, .int o0_draft, .int o0_cap, .int o0_time, .int o0_volume, .int o0_fails, .int o0_lacking, .int o0_spilt])), (o0_inflows_a, .inl (cy 0, 12, .inl o0_inflows)), (o0_losses_a, .inl (cy 0, 10, .inl o0_losses))] := hD
  refine lv_aload_n hx hb d_Ba_copyFrom_30 rfl (lv_at hl 0 rfl) ?_
  refine lv_aload_n hx hb d_Ba_copyFrom_31 rfl (lv_at hl 1 rfl) ?_
  refine va_get (D := G) (ci := 0) (v := .int o0_periods) (C := "YieldDesk$Basin") (T := F_Ba) (N := 10) hx hb hB fi_Ba hown hE.1 hP 3 rfl rfl 2 (by decide) (hB _ m_28) (fun _ h9 => h9) rfl d_Ba_copyFrom_32 ?_
  refine va_put (D := G) (ci := 0) (v := .int o0_periods) (ty := .int) (C := "YieldDesk$Basin") (T := F_Ba) (N := 10) hx hb hB fi_Ba ft_Ba fo_Ba fn_Ba hown hE.1 hP hD hS 0 rfl rfl 2 (by decide) (hB _ m_28) (fun _ h9 => h9) rfl (by decide +kernel) rfl rfl (Nat.le_of_ble_eq_true rfl) d_Ba_copyFrom_35 (fun H locs hP hD hS => ?_)
  have hP : va_P G classes [(z, .inr (0, [.ref z_inflows_a, .ref z_losses_a, .int o0_periods, .int z_draft, .int z_cap, .int z_time, .int z_volume, .int z_fails, .int z_lacking, .int z_spilt])), (z_inflows_a, .inl (cy 0, 12, .inl (va_cpy o0_inflows z_inflows (0 : Int32).toNatClampNeg (0 : Int32).toNatClampNeg (12 : Int32).toNatClampNeg))), (z_losses_a, .inl (cy 0, 10, .inl (va_cpy o0_losses z_losses (0 : Int32).toNatClampNeg (0 : Int32).toNatClampNeg (10 : Int32).toNatClampNeg))), (o0, .inr (0, [.ref o0_inflows_a, .ref o0_losses_a, .int o0_periods, .int o0_draft, .int o0_cap, .int o0_time, .int o0_volume, .int o0_fails, .int o0_lacking, .int o0_spilt])), (o0_inflows_a, .inl (cy 0, 12, .inl o0_inflows)), (o0_losses_a, .inl (cy 0, 10, .inl o0_losses))] H := hP
  have hD : va_D A [(z, .inr (0, [.ref z_inflows_a, .ref z_losses_a, .int o0_periods, .int z_draft, .int z_cap, .int z_time, .int z_volume, .int z_fails, .int z_lacking, .int z_spilt])), (z_inflows_a, .inl (cy 0, 12, .inl (va_cpy o0_inflows z_inflows (0 : Int32).toNatClampNeg (0 : Int32).toNatClampNeg (12 : Int32).toNatClampNeg))), (z_losses_a, .inl (cy 0, 10, .inl (va_cpy o0_losses z_losses (0 : Int32).toNatClampNeg (0 : Int32).toNatClampNeg (10 : Int32).toNatClampNeg))), (o0, .inr (0, [.ref o0_inflows_a, .ref o0_losses_a, .int o0_periods, .int o0_draft, .int o0_cap, .int o0_time, .int o0_volume, .int o0_fails, .int o0_lacking, .int o0_spilt])), (o0_inflows_a, .inl (cy 0, 12, .inl o0_inflows)), (o0_losses_a, .inl (cy 0, 10, .inl o0_losses))] := hD
  refine lv_aload_n hx hb d_Ba_copyFrom_38 rfl (lv_at hl 0 rfl) ?_
  refine lv_aload_n hx hb d_Ba_copyFrom_39 rfl (lv_at hl 1 rfl) ?_
  refine va_get (D := G) (ci := 0) (v := .int o0_draft) (C := "YieldDesk$Basin") (T := F_Ba) (N := 10) hx hb hB fi_Ba hown hE.1 hP 3 rfl rfl 3 (by decide) (hB _ m_32) (fun _ h9 => h9) rfl d_Ba_copyFrom_40 ?_
  refine va_put (D := G) (ci := 0) (v := .int o0_draft) (ty := .int) (C := "YieldDesk$Basin") (T := F_Ba) (N := 10) hx hb hB fi_Ba ft_Ba fo_Ba fn_Ba hown hE.1 hP hD hS 0 rfl rfl 3 (by decide) (hB _ m_32) (fun _ h9 => h9) rfl (by decide +kernel) rfl rfl (Nat.le_of_ble_eq_true rfl) d_Ba_copyFrom_43 (fun H locs hP hD hS => ?_)
  have hP : va_P G classes [(z, .inr (0, [.ref z_inflows_a, .ref z_losses_a, .int o0_periods, .int o0_draft, .int z_cap, .int z_time, .int z_volume, .int z_fails, .int z_lacking, .int z_spilt])), (z_inflows_a, .inl (cy 0, 12, .inl (va_cpy o0_inflows z_inflows (0 : Int32).toNatClampNeg (0 : Int32).toNatClampNeg (12 : Int32).toNatClampNeg))), (z_losses_a, .inl (cy 0, 10, .inl (va_cpy o0_losses z_losses (0 : Int32).toNatClampNeg (0 : Int32).toNatClampNeg (10 : Int32).toNatClampNeg))), (o0, .inr (0, [.ref o0_inflows_a, .ref o0_losses_a, .int o0_periods, .int o0_draft, .int o0_cap, .int o0_time, .int o0_volume, .int o0_fails, .int o0_lacking, .int o0_spilt])), (o0_inflows_a, .inl (cy 0, 12, .inl o0_inflows)), (o0_losses_a, .inl (cy 0, 10, .inl o0_losses))] H := hP
  have hD : va_D A [(z, .inr (0, [.ref z_inflows_a, .ref z_losses_a, .int o0_periods, .int o0_draft, .int z_cap, .int z_time, .int z_volume, .int z_fails, .int z_lacking, .int z_spilt])), (z_inflows_a, .inl (cy 0, 12, .inl (va_cpy o0_inflows z_inflows (0 : Int32).toNatClampNeg (0 : Int32).toNatClampNeg (12 : Int32).toNatClampNeg))), (z_losses_a, .inl (cy 0, 10, .inl (va_cpy o0_losses z_losses (0 : Int32).toNatClampNeg (0 : Int32).toNatClampNeg (10 : Int32).toNatClampNeg))), (o0, .inr (0, [.ref o0_inflows_a, .ref o0_losses_a, .int o0_periods, .int o0_draft, .int o0_cap, .int o0_time, .int o0_volume, .int o0_fails, .int o0_lacking, .int o0_spilt])), (o0_inflows_a, .inl (cy 0, 12, .inl o0_inflows)), (o0_losses_a, .inl (cy 0, 10, .inl o0_losses))] := hD
  refine lv_aload_n hx hb d_Ba_copyFrom_46 rfl (lv_at hl 0 rfl) ?_
  refine lv_aload_n hx hb d_Ba_copyFrom_47 rfl (lv_at hl 1 rfl) ?_
  refine va_get (D := G) (ci := 0) (v := .int o0_cap) (C := "YieldDesk$Basin") (T := F_Ba) (N := 10) hx hb hB fi_Ba hown hE.1 hP 3 rfl rfl 4 (by decide) (hB _ m_36) (fun _ h9 => h9) rfl d_Ba_copyFrom_48 ?_
  refine va_put (D := G) (ci := 0) (v := .int o0_cap) (ty := .int) (C := "YieldDesk$Basin") (T := F_Ba) (N := 10) hx hb hB fi_Ba ft_Ba fo_Ba fn_Ba hown hE.1 hP hD hS 0 rfl rfl 4 (by decide) (hB _ m_36) (fun _ h9 => h9) rfl (by decide +kernel) rfl rfl (Nat.le_of_ble_eq_true rfl) d_Ba_copyFrom_51 (fun H locs hP hD hS => ?_)
  have hP : va_P G classes [(z, .inr (0, [.ref z_inflows_a, .ref z_losses_a, .int o0_periods, .int o0_draft, .int o0_cap, .int z_time, .int z_volume, .int z_fails, .int z_lacking, .int z_spilt])), (z_inflows_a, .inl (cy 0, 12, .inl (va_cpy o0_inflows z_inflows (0 : Int32).toNatClampNeg (0 : Int32).toNatClampNeg (12 : Int32).toNatClampNeg))), (z_losses_a, .inl (cy 0, 10, .inl (va_cpy o0_losses z_losses (0 : Int32).toNatClampNeg (0 : Int32).toNatClampNeg (10 : Int32).toNatClampNeg))), (o0, .inr (0, [.ref o0_inflows_a, .ref o0_losses_a, .int o0_periods, .int o0_draft, .int o0_cap, .int o0_time, .int o0_volume, .int o0_fails, .int o0_lacking, .int o0_spilt])), (o0_inflows_a, .inl (cy 0, 12, .inl o0_inflows)), (o0_losses_a, .inl (cy 0, 10, .inl o0_losses))] H := hP
  have hD : va_D A [(z, .inr (0, [.ref z_inflows_a, .ref z_losses_a, .int o0_periods, .int o0_draft, .int o0_cap, .int z_time, .int z_volume, .int z_fails, .int z_lacking, .int z_spilt])), (z_inflows_a, .inl (cy 0, 12, .inl (va_cpy o0_inflows z_inflows (0 : Int32).toNatClampNeg (0 : Int32).toNatClampNeg (12 : Int32).toNatClampNeg))), (z_losses_a, .inl (cy 0, 10, .inl (va_cpy o0_losses z_losses (0 : Int32).toNatClampNeg (0 : Int32).toNatClampNeg (10 : Int32).toNatClampNeg))), (o0, .inr (0, [.ref o0_inflows_a, .ref o0_losses_a, .int o0_periods, .int o0_draft, .int o0_cap, .int o0_time, .int o0_volume, .int o0_fails, .int o0_lacking, .int o0_spilt])), (o0_inflows_a, .inl (cy 0, 12, .inl o0_inflows)), (o0_losses_a, .inl (cy 0, 10, .inl o0_losses))] := hD
  refine lv_aload_n hx hb d_Ba_copyFrom_54 rfl (lv_at hl 0 rfl) ?_
  refine lv_aload_n hx hb d_Ba_copyFrom_55 rfl (lv_at hl 1 rfl) ?_
  refine va_get (D := G) (ci := 0) (v := .int o0_time) (C := "YieldDesk$Basin") (T := F_Ba) (N := 10) hx hb hB fi_Ba hown hE.1 hP 3 rfl rfl 5 (by decide) (hB _ m_41) (fun _ h9 => h9) rfl d_Ba_copyFrom_56 ?_
  refine va_put (D := G) (ci := 0) (v := .int o0_time) (ty := .int) (C := "YieldDesk$Basin") (T := F_Ba) (N := 10) hx hb hB fi_Ba ft_Ba fo_Ba fn_Ba hown hE.1 hP hD hS 0 rfl rfl 5 (by decide) (hB _ m_41) (fun _ h9 => h9) rfl (by decide +kernel) rfl rfl (Nat.le_of_ble_eq_true rfl) d_Ba_copyFrom_59 (fun H locs hP hD hS => ?_)
  have hP : va_P G classes [(z, .inr (0, [.ref z_inflows_a, .ref z_losses_a, .int o0_periods, .int o0_draft, .int o0_cap, .int o0_time, .int z_volume, .int z_fails, .int z_lacking, .int z_spilt])), (z_inflows_a, .inl (cy 0, 12, .inl (va_cpy o0_inflows z_inflows (0 : Int32).toNatClampNeg (0 : Int32).toNatClampNeg (12 : Int32).toNatClampNeg))), (z_losses_a, .inl (cy 0, 10, .inl (va_cpy o0_losses z_losses (0 : Int32).toNatClampNeg (0 : Int32).toNatClampNeg (10 : Int32).toNatClampNeg))), (o0, .inr (0, [.ref o0_inflows_a, .ref o0_losses_a, .int o0_periods, .int o0_draft, .int o0_cap, .int o0_time, .int o0_volume, .int o0_fails, .int o0_lacking, .int o0_spilt])), (o0_inflows_a, .inl (cy 0, 12, .inl o0_inflows)), (o0_losses_a, .inl (cy 0, 10, .inl o0_losses))] H := hP
  have hD : va_D A [(z, .inr (0, [.ref z_inflows_a, .ref z_losses_a, .int o0_periods, .int o0_draft, .int o0_cap, .int o0_time, .int z_volume, .int z_fails, .int z_lacking, .int z_spilt])), (z_inflows_a, .inl (cy 0, 12, .inl (va_cpy o0_inflows z_inflows (0 : Int32).toNatClampNeg (0 : Int32).toNatClampNeg (12 : Int32).toNatClampNeg))), (z_losses_a, .inl (cy 0, 10, .inl (va_cpy o0_losses z_losses (0 : Int32).toNatClampNeg (0 : Int32).toNatClampNeg (10 : Int32).toNatClampNeg))), (o0, .inr (0, [.ref o0_inflows_a, .ref o0_losses_a, .int o0_periods, .int o0_draft, .int o0_cap, .int o0_time, .int o0_volume, .int o0_fails, .int o0_lacking, .int o0_spilt])), (o0_inflows_a, .inl (cy 0, 12, .inl o0_inflows)), (o0_losses_a, .inl (cy 0, 10, .inl o0_losses))] := hD
  refine lv_aload_n hx hb d_Ba_copyFrom_62 rfl (lv_at hl 0 rfl) ?_
  refine lv_aload_n hx hb d_Ba_copyFrom_63 rfl (lv_at hl 1 rfl) ?_
  refine va_get (D := G) (ci := 0) (v := .int o0_volume) (C := "YieldDesk$Basin") (T := F_Ba) (N := 10) hx hb hB fi_Ba hown hE.1 hP 3 rfl rfl 6 (by decide) (hB _ m_43) (fun _ h9 => h9) rfl d_Ba_copyFrom_64 ?_
  refine va_put (D := G) (ci := 0) (v := .int o0_volume) (ty := .int) (C := "YieldDesk$Basin") (T := F_Ba) (N := 10) hx hb hB fi_Ba ft_Ba fo_Ba fn_Ba hown hE.1 hP hD hS 0 rfl rfl 6 (by decide) (hB _ m_43) (fun _ h9 => h9) rfl (by decide +kernel) rfl rfl (Nat.le_of_ble_eq_true rfl) d_Ba_copyFrom_67 (fun H locs hP hD hS => ?_)
  have hP : va_P G classes [(z, .inr (0, [.ref z_inflows_a, .ref z_losses_a, .int o0_periods, .int o0_draft, .int o0_cap, .int o0_time, .int o0_volume, .int z_fails, .int z_lacking, .int z_spilt])), (z_inflows_a, .inl (cy 0, 12, .inl (va_cpy o0_inflows z_inflows (0 : Int32).toNatClampNeg (0 : Int32).toNatClampNeg (12 : Int32).toNatClampNeg))), (z_losses_a, .inl (cy 0, 10, .inl (va_cpy o0_losses z_losses (0 : Int32).toNatClampNeg (0 : Int32).toNatClampNeg (10 : Int32).toNatClampNeg))), (o0, .inr (0, [.ref o0_inflows_a, .ref o0_losses_a, .int o0_periods, .int o0_draft, .int o0_cap, .int o0_time, .int o0_volume, .int o0_fails, .int o0_lacking, .int o0_spilt])), (o0_inflows_a, .inl (cy 0, 12, .inl o0_inflows)), (o0_losses_a, .inl (cy 0, 10, .inl o0_losses))] H := hP
  have hD : va_D A [(z, .inr (0, [.ref z_inflows_a, .ref z_losses_a, .int o0_periods, .int o0_draft, .int o0_cap, .int o0_time, .int o0_volume, .int z_fails, .int z_lacking, .int z_spilt])), (z_inflows_a, .inl (cy 0, 12, .inl (va_cpy o0_inflows z_inflows (0 : Int32).toNatClampNeg (0 : Int32).toNatClampNeg (12 : Int32).toNatClampNeg))), (z_losses_a, .inl (cy 0, 10, .inl (va_cpy o0_losses z_losses (0 : Int32).toNatClampNeg (0 : Int32).toNatClampNeg (10 : Int32).toNatClampNeg))), (o0, .inr (0, [.ref o0_inflows_a, .ref o0_losses_a, .int o0_periods, .int o0_draft, .int o0_cap, .int o0_time, .int o0_volume, .int o0_fails, .int o0_lacking, .int o0_spilt])), (o0_inflows_a, .inl (cy 0, 12, .inl o0_inflows)), (o0_losses_a, .inl (cy 0, 10, .inl o0_losses))] := hD
  refine lv_aload_n hx hb d_Ba_copyFrom_70 rfl (lv_at hl 0 rfl) ?_
  refine lv_aload_n hx hb d_Ba_copyFrom_71 rfl (lv_at hl 1 rfl) ?_
  refine va_get (D := G) (ci := 0) (v := .int o0_fails) (C := "YieldDesk$Basin") (T := F_Ba) (N := 10) hx hb hB fi_Ba hown hE.1 hP 3 rfl rfl 7 (by decide) (hB _ m_46) (fun _ h9 => h9) rfl d_Ba_copyFrom_72 ?_
  refine va_put (D := G) (ci := 0) (v := .int o0_fails) (ty := .int) (C := "YieldDesk$Basin") (T := F_Ba) (N := 10) hx hb hB fi_Ba ft_Ba fo_Ba fn_Ba hown hE.1 hP hD hS 0 rfl rfl 7 (by decide) (hB _ m_46) (fun _ h9 => h9) rfl (by decide +kernel) rfl rfl (Nat.le_of_ble_eq_true rfl) d_Ba_copyFrom_75 (fun H locs hP hD hS => ?_)
  have hP : va_P G classes [(z, .inr (0, [.ref z_inflows_a, .ref z_losses_a, .int o0_periods, .int o0_draft, .int o0_cap, .int o0_time, .int o0_volume, .int o0_fails, .int z_lacking, .int z_spilt])), (z_inflows_a, .inl (cy 0, 12, .inl (va_cpy o0_inflows z_inflows (0 : Int32).toNatClampNeg (0 : Int32).toNatClampNeg (12 : Int32).toNatClampNeg))), (z_losses_a, .inl (cy 0, 10, .inl (va_cpy o0_losses z_losses (0 : Int32).toNatClampNeg (0 : Int32).toNatClampNeg (10 : Int32).toNatClampNeg))), (o0, .inr (0, [.ref o0_inflows_a, .ref o0_losses_a, .int o0_periods, .int o0_draft, .int o0_cap, .int o0_time, .int o0_volume, .int o0_fails, .int o0_lacking, .int o0_spilt])), (o0_inflows_a, .inl (cy 0, 12, .inl o0_inflows)), (o0_losses_a, .inl (cy 0, 10, .inl o0_losses))] H := hP
  have hD : va_D A [(z, .inr (0, [.ref z_inflows_a, .ref z_losses_a, .int o0_periods, .int o0_draft, .int o0_cap, .int o0_time, .int o0_volume, .int o0_fails, .int z_lacking, .int z_spilt])), (z_inflows_a, .inl (cy 0, 12, .inl (va_cpy o0_inflows z_inflows (0 : Int32).toNatClampNeg (0 : Int32).toNatClampNeg (12 : Int32).toNatClampNeg))), (z_losses_a, .inl (cy 0, 10, .inl (va_cpy o0_losses z_losses (0 : Int32).toNatClampNeg (0 : Int32).toNatClampNeg (10 : Int32).toNatClampNeg))), (o0, .inr (0, [.ref o0_inflows_a, .ref o0_losses_a, .int o0_periods, .int o0_draft, .int o0_cap, .int o0_time, .int o0_volume, .int o0_fails, .int o0_lacking, .int o0_spilt])), (o0_inflows_a, .inl (cy 0, 12, .inl o0_inflows)), (o0_losses_a, .inl (cy 0, 10, .inl o0_losses))] := hD
  refine lv_aload_n hx hb d_Ba_copyFrom_78 rfl (lv_at hl 0 rfl) ?_
  refine lv_aload_n hx hb d_Ba_copyFrom_79 rfl (lv_at hl 1 rfl) ?_
  refine va_get (D := G) (ci := 0) (v := .int o0_lacking) (C := "YieldDesk$Basin") (T := F_Ba) (N := 10) hx hb hB fi_Ba hown hE.1 hP 3 rfl rfl 8 (by decide) (hB _ m_48) (fun _ h9 => h9) rfl d_Ba_copyFrom_80 ?_
  refine va_put (D := G) (ci := 0) (v := .int o0_lacking) (ty := .int) (C := "YieldDesk$Basin") (T := F_Ba) (N := 10) hx hb hB fi_Ba ft_Ba fo_Ba fn_Ba hown hE.1 hP hD hS 0 rfl rfl 8 (by decide) (hB _ m_48) (fun _ h9 => h9) rfl (by decide +kernel) rfl rfl (Nat.le_of_ble_eq_true rfl) d_Ba_copyFrom_83 (fun H locs hP hD hS => ?_)
  have hP : va_P G classes [(z, .inr (0, [.ref z_inflows_a, .ref z_losses_a, .int o0_periods, .int o0_draft, .int o0_cap, .int o0_time, .int o0_volume, .int o0_fails, .int o0_lacking, .int z_spilt])), (z_inflows_a, .inl (cy 0, 12, .inl (va_cpy o0_inflows z_inflows (0 : Int32).toNatClampNeg (0 : Int32).toNatClampNeg (12 : Int32).toNatClampNeg))), (z_losses_a, .inl (cy 0, 10, .inl (va_cpy o0_losses z_losses (0 : Int32).toNatClampNeg (0 : Int32).toNatClampNeg (10 : Int32).toNatClampNeg))), (o0, .inr (0, [.ref o0_inflows_a, .ref o0_losses_a, .int o0_periods, .int o0_draft, .int o0_cap, .int o0_time, .int o0_volume, .int o0_fails, .int o0_lacking, .int o0_spilt])), (o0_inflows_a, .inl (cy 0, 12, .inl o0_inflows)), (o0_losses_a, .inl (cy 0, 10, .inl o0_losses))] H := hP
  have hD : va_D A [(z, .inr (0, [.ref z_inflows_a, .ref z_losses_a, .int o0_periods, .int o0_draft, .int o0_cap, .int o0_time, .int o0_volume, .int o0_fails, .int o0_lacking, .int z_spilt])), (z_inflows_a, .inl (cy 0, 12, .inl (va_cpy o0_inflows z_inflows (0 : Int32).toNatClampNeg (0 : Int32).toNatClampNeg (12 : Int32).toNatClampNeg))), (z_losses_a, .inl (cy 0, 10, .inl (va_cpy o0_losses z_losses (0 : Int32).toNatClampNeg (0 : Int32).toNatClampNeg (10 : Int32).toNatClampNeg))), (o0, .inr (0, [.ref o0_inflows_a, .ref o0_losses_a, .int o0_periods, .int o0_draft, .int o0_cap, .int o0_time, .int o0_volume, .int o0_fails, .int o0_lacking, .int o0_spilt])), (o0_inflows_a, .inl (cy 0, 12, .inl o0_inflows)), (o0_losses_a, .inl (cy 0, 10, .inl o0_losses))] := hD
  refine lv_aload_n hx hb d_Ba_copyFrom_86 rfl (lv_at hl 0 rfl) ?_
  refine lv_aload_n hx hb d_Ba_copyFrom_87 rfl (lv_at hl 1 rfl) ?_
  refine va_get (D := G) (ci := 0) (v := .int o0_spilt) (C := "YieldDesk$Basin") (T := F_Ba) (N := 10) hx hb hB fi_Ba hown hE.1 hP 3 rfl rfl 9 (by decide) (hB _ m_50) (fun _ h9 => h9) rfl d_Ba_copyFrom_88 ?_
  refine va_put (D := G) (ci := 0) (v := .int o0_spilt) (ty := .int) (C := "YieldDesk$Basin") (T := F_Ba) (N := 10) hx hb hB fi_Ba ft_Ba fo_Ba fn_Ba hown hE.1 hP hD hS 0 rfl rfl 9 (by decide) (hB _ m_50) (fun _ h9 => h9) rfl (by decide +kernel) rfl rfl (Nat.le_of_ble_eq_true rfl) d_Ba_copyFrom_91 (fun H locs hP hD hS => ?_)
  have hP : va_P G classes [(z, .inr (0, [.ref z_inflows_a, .ref z_losses_a, .int o0_periods, .int o0_draft, .int o0_cap, .int o0_time, .int o0_volume, .int o0_fails, .int o0_lacking, .int o0_spilt])), (z_inflows_a, .inl (cy 0, 12, .inl (va_cpy o0_inflows z_inflows (0 : Int32).toNatClampNeg (0 : Int32).toNatClampNeg (12 : Int32).toNatClampNeg))), (z_losses_a, .inl (cy 0, 10, .inl (va_cpy o0_losses z_losses (0 : Int32).toNatClampNeg (0 : Int32).toNatClampNeg (10 : Int32).toNatClampNeg))), (o0, .inr (0, [.ref o0_inflows_a, .ref o0_losses_a, .int o0_periods, .int o0_draft, .int o0_cap, .int o0_time, .int o0_volume, .int o0_fails, .int o0_lacking, .int o0_spilt])), (o0_inflows_a, .inl (cy 0, 12, .inl o0_inflows)), (o0_losses_a, .inl (cy 0, 10, .inl o0_losses))] H := hP
  have hD : va_D A [(z, .inr (0, [.ref z_inflows_a, .ref z_losses_a, .int o0_periods, .int o0_draft, .int o0_cap, .int o0_time, .int o0_volume, .int o0_fails, .int o0_lacking, .int o0_spilt])), (z_inflows_a, .inl (cy 0, 12, .inl (va_cpy o0_inflows z_inflows (0 : Int32).toNatClampNeg (0 : Int32).toNatClampNeg (12 : Int32).toNatClampNeg))), (z_losses_a, .inl (cy 0, 10, .inl (va_cpy o0_losses z_losses (0 : Int32).toNatClampNeg (0 : Int32).toNatClampNeg (10 : Int32).toNatClampNeg))), (o0, .inr (0, [.ref o0_inflows_a, .ref o0_losses_a, .int o0_periods, .int o0_draft, .int o0_cap, .int o0_time, .int o0_volume, .int o0_fails, .int o0_lacking, .int o0_spilt])), (o0_inflows_a, .inl (cy 0, 12, .inl o0_inflows)), (o0_losses_a, .inl (cy 0, 10, .inl o0_losses))] := hD
  obtain rfl := Option.some.inj hf
  exact W.vret hx hb hr (x_ret hP hD hS hBp) hS.2.2 d_Ba_copyFrom_94
set_option maxHeartbeats 4000000 in
set_option maxRecDepth 100000 in
theorem t_Ba_inflowOf (l : Launch) (G : va_G) (cy : Nat → ClassId) (kz : Nat → Nat) (N0 : Nat) (z : Nat) (z_periods : Int32) (z_draft : Int32) (z_cap : Int32) (z_time : Int32) (z_volume : Int32) (z_fails : Int32) (z_lacking : Int32) (z_spilt : Int32) (z_inflows_a : Nat) (z_inflows : Nat → Int32) (z_losses_a : Nat) (z_losses : Nat → Int32) (p0 : Int32) (out : Int32) (h0 : f_Ba_inflowOf z_periods z_inflows p0 = some out) (Bp : va_W → Prop) (hBp : Bp [(z, .inr (0, [.ref z_inflows_a, .ref z_losses_a, .int z_periods, .int z_draft, .int z_cap, .int z_time, .int z_volume, .int z_fails, .int z_lacking, .int z_spilt])), (z_inflows_a, .inl (cy 0, 12, .inl z_inflows)), (z_losses_a, .inl (cy 0, 10, .inl z_losses))]) : CT l G cy kz N0 y_Ba_inflowOf b_Ba_inflowOf 2 (some .int) 1 0 0 [.ref z, .int p0] [(z, .inr (0, [.ref z_inflows_a, .ref z_losses_a, .int z_periods, .int z_draft, .int z_cap, .int z_time, .int z_volume, .int z_fails, .int z_lacking, .int z_spilt])), (z_inflows_a, .inl (cy 0, 12, .inl z_inflows)), (z_losses_a, .inl (cy 0, 10, .inl z_losses))] (some (.int out)) Bp := by
  refine CT.of (by decide) (Nat.le_of_ble_eq_true rfl) ?_
  intro p e s m below meth c A ls hx hb hr hml hB hown hlocks hnm hE hN hA hNA hP hD hS hl
  have hown : s.vm.findClass "YieldDesk$Basin" = some m.cls := hown
  have hl : lv_has ls 2 [(0, .ref z), (1, .int p0)] := hl
  have hf := h0
  unfold f_Ba_inflowOf at hf
  refine lv_iload_n hx hb d_Ba_inflowOf_0 rfl (lv_at hl 1 rfl) ?_
  refine lv_if_lt (tgt := 17) hx hb d_Ba_inflowOf_1 (by decide) (fun hc1 => ?_) (fun hc1 => ?_)
  · replace hf := iteP hc1 hf
    refine lv_iconst (v := (0 : Int32)) hx hb d_Ba_inflowOf_17 (by decide) ?_
    obtain rfl := Option.some.inj hf
    exact W.iret hx hb hr (x_ret hP hD hS hBp) hS.2.2 d_Ba_inflowOf_18
  · replace hf := iteN hc1 hf
    refine lv_aload_n hx hb d_Ba_inflowOf_4 rfl (lv_at hl 0 rfl) ?_
    refine va_get (D := G) (ci := 0) (v := .int z_periods) (C := "YieldDesk$Basin") (T := F_Ba) (N := 10) hx hb hB fi_Ba hown hE.1 hP 0 rfl rfl 2 (by decide) (hB _ m_28) (fun _ h9 => h9) rfl d_Ba_inflowOf_5 ?_
    refine lv_iconst (v := (1 : Int32)) hx hb d_Ba_inflowOf_8 (by decide) ?_
    refine lv_bipush (v := (12 : Int32)) hx hb d_Ba_inflowOf_9 (by decide) ?_
    obtain ⟨z2, hz2, hf⟩ := obn hf
    refine x_SN0 (As := [.int z_periods, .int (1 : Int32), .int (12 : Int32)]) (rest := []) (t_Ye_isOutside l G cy kz N0  z_periods (1 : Int32) (12 : Int32) z2 hz2 (fun w => w = []) rfl) hx hb hml hown hB hE hN hNA (List.mem_of_getElem? (i := 9) rfl) m_240 m_1 m_241 hdS_Ye_isOutside ⟨Nat.le_of_ble_eq_true rfl, Nat.le_of_ble_eq_true rfl, Nat.le_of_ble_eq_true rfl, Nat.le_of_ble_eq_true rfl⟩ hP hD hS hA hl.1 rfl (Nat.le_of_ble_eq_true rfl) d_Ba_inflowOf_11 (fun H locs hP hD hS => ?_)
    refine lv_if_eq (tgt := 19) hx hb d_Ba_inflowOf_14 (by decide) (fun hc3 => ?_) (fun hc3 => ?_)
    · replace hf := iteP hc3 hf
      refine lv_aload_n hx hb d_Ba_inflowOf_19 rfl (lv_at hl 0 rfl) ?_
      refine va_get (D := G) (ci := 0) (v := .ref z_inflows_a) (C := "YieldDesk$Basin") (T := F_Ba) (N := 10) hx hb hB fi_Ba hown hE.1 hP 0 rfl rfl 0 (by decide) (hB _ m_26) (fun _ h9 => h9) rfl d_Ba_inflowOf_20 ?_
      refine lv_iload_n hx hb d_Ba_inflowOf_23 rfl (lv_at hl 1 rfl) ?_
      refine lv_aload_n hx hb d_Ba_inflowOf_24 rfl (lv_at hl 0 rfl) ?_
      refine va_get (D := G) (ci := 0) (v := .int z_periods) (C := "YieldDesk$Basin") (T := F_Ba) (N := 10) hx hb hB fi_Ba hown hE.1 hP 0 rfl rfl 2 (by decide) (hB _ m_28) (fun _ h9 => h9) rfl d_Ba_inflowOf_25 ?_
      obtain ⟨hg4, hf⟩ := gdn hf
      refine lv_irem hx hb d_Ba_inflowOf_28 hg4 ?_
      obtain ⟨hg5, hf⟩ := gdn hf
      refine va_iald hx hb hE.1 hP 1 0 rfl rfl hg5 d_Ba_inflowOf_29 ?_
      obtain rfl := Option.some.inj hf
      exact W.iret hx hb hr (x_ret hP hD hS hBp) hS.2.2 d_Ba_inflowOf_30
    · replace hf := iteN hc3 hf
      refine lv_iconst (v := (0 : Int32)) hx hb d_Ba_inflowOf_17 (by decide) ?_
      obtain rfl := Option.some.inj hf
      exact W.iret hx hb hr (x_ret hP hD hS hBp) hS.2.2 d_Ba_inflowOf_18
set_option maxHeartbeats 4000000 in
set_option maxRecDepth 100000 in
theorem t_Ba_lossOf (l : Launch) (G : va_G) (cy : Nat → ClassId) (kz : Nat → Nat) (N0 : Nat) (z : Nat) (z_periods : Int32) (z_draft : Int32) (z_cap : Int32) (z_time : Int32) (z_volume : Int32) (z_fails : Int32) (z_lacking : Int32) (z_spilt : Int32) (z_inflows_a : Nat) (z_inflows : Nat → Int32) (z_losses_a : Nat) (z_losses : Nat → Int32) (p0 : Int32) (out : Int32) (h0 : f_Ba_lossOf z_losses p0 = some out) (Bp : va_W → Prop) (hBp : Bp [(z, .inr (0, [.ref z_inflows_a, .ref z_losses_a, .int z_periods, .int z_draft, .int z_cap, .int z_time, .int z_volume, .int z_fails, .int z_lacking, .int z_spilt])), (z_inflows_a, .inl (cy 0, 12, .inl z_inflows)), (z_losses_a, .inl (cy 0, 10, .inl z_losses))]) : CT l G cy kz N0 y_Ba_lossOf b_Ba_lossOf 3 (some .int) 1 0 0 [.ref z, .int p0] [(z, .inr (0, [.ref z_inflows_a, .ref z_losses_a, .int z_periods, .int z_draft, .int z_cap, .int z_time, .int z_volume, .int z_fails, .int z_lacking, .int z_spilt])), (z_inflows_a, .inl (cy 0, 12, .inl z_inflows)), (z_losses_a, .inl (cy 0, 10, .inl z_losses))] (some (.int out)) Bp := by
  refine CT.of (by decide) (Nat.le_of_ble_eq_true rfl) ?_
  intro p e s m below meth c A ls hx hb hr hml hB hown hlocks hnm hE hN hA hNA hP hD hS hl
  have hown : s.vm.findClass "YieldDesk$Basin" = some m.cls := hown
  have hl : lv_has ls 3 [(0, .ref z), (1, .int p0)] := hl
  have hf := h0
  unfold f_Ba_lossOf at hf
  refine lv_iload_n hx hb d_Ba_lossOf_0 rfl (lv_at hl 1 rfl) ?_
  refine lv_bipush (v := (100 : Int32)) hx hb d_Ba_lossOf_1 (by decide) ?_
  refine lv_idiv hx hb d_Ba_lossOf_3 (by decide) ?_
  refine lv_istore_n (lv' := [(2, .int (p0 / (100 : Int32))), (0, .ref z), (1, .int p0)]) hx hb d_Ba_lossOf_4 rfl hl (by decide) rfl (fun ls hl => ?_)
  refine lv_iload_n hx hb d_Ba_lossOf_5 rfl (lv_at hl 0 rfl) ?_
  refine lv_iconst (v := (0 : Int32)) hx hb d_Ba_lossOf_6 (by decide) ?_
  refine lv_bipush (v := (9 : Int32)) hx hb d_Ba_lossOf_7 (by decide) ?_
  obtain ⟨z1, hz1, hf⟩ := obn hf
  refine x_SN0 (As := [.int (p0 / (100 : Int32)), .int (0 : Int32), .int (9 : Int32)]) (rest := []) (t_Ye_isOutside l G cy kz N0  (p0 / (100 : Int32)) (0 : Int32) (9 : Int32) z1 hz1 (fun w => w = []) rfl) hx hb hml hown hB hE hN hNA (List.mem_of_getElem? (i := 9) rfl) m_240 m_1 m_241 hdS_Ye_isOutside ⟨Nat.le_of_ble_eq_true rfl, Nat.le_of_ble_eq_true rfl, Nat.le_of_ble_eq_true rfl, Nat.le_of_ble_eq_true rfl⟩ hP hD hS hA hl.1 rfl (Nat.le_of_ble_eq_true rfl) d_Ba_lossOf_9 (fun H locs hP hD hS => ?_)
  refine lv_if_eq (tgt := 19) hx hb d_Ba_lossOf_12 (by decide) (fun hc2 => ?_) (fun hc2 => ?_)
  · replace hf := iteP hc2 hf
    refine lv_aload_n hx hb d_Ba_lossOf_19 rfl (lv_at hl 1 rfl) ?_
    refine va_get (D := G) (ci := 0) (v := .ref z_losses_a) (C := "YieldDesk$Basin") (T := F_Ba) (N := 10) hx hb hB fi_Ba hown hE.1 hP 0 rfl rfl 1 (by decide) (hB _ m_27) (fun _ h9 => h9) rfl d_Ba_lossOf_20 ?_
    refine lv_iload_n hx hb d_Ba_lossOf_23 rfl (lv_at hl 0 rfl) ?_
    obtain ⟨hg3, hf⟩ := gdn hf
    refine va_iald hx hb hE.1 hP 2 0 rfl rfl hg3 d_Ba_lossOf_24 ?_
    obtain rfl := Option.some.inj hf
    exact W.iret hx hb hr (x_ret hP hD hS hBp) hS.2.2 d_Ba_lossOf_25
  · replace hf := iteN hc2 hf
    refine lv_iconst (v := (0 : Int32)) hx hb d_Ba_lossOf_15 (by decide) ?_
    refine lv_goto (tgt := 25) hx hb d_Ba_lossOf_16 (by decide) ?_
    obtain rfl := Option.some.inj hf
    exact W.iret hx hb hr (x_ret hP hD hS hBp) hS.2.2 d_Ba_lossOf_25
set_option maxHeartbeats 4000000 in
set_option maxRecDepth 100000 in
theorem t_Ba_levelWith (l : Launch) (G : va_G) (cy : Nat → ClassId) (kz : Nat → Nat) (N0 : Nat) (z : Nat) (z_periods : Int32) (z_draft : Int32) (z_cap : Int32) (z_time : Int32) (z_volume : Int32) (z_fails : Int32) (z_lacking : Int32) (z_spilt : Int32) (z_inflows_a : Nat) (z_inflows : Nat → Int32) (z_losses_a : Nat) (z_losses : Nat → Int32) (p0 : Int32) (p1 : Int32) (p2 : Int32) (out : Int32) (h0 : f_Ba_levelWith z_losses p0 p1 p2 = some out) (Bp : va_W → Prop) (hBp : Bp [(z, .inr (0, [.ref z_inflows_a, .ref z_losses_a, .int z_periods, .int z_draft, .int z_cap, .int z_time, .int z_volume, .int z_fails, .int z_lacking, .int z_spilt])), (z_inflows_a, .inl (cy 0, 12, .inl z_inflows)), (z_losses_a, .inl (cy 0, 10, .inl z_losses))]) : CT l G cy kz N0 y_Ba_levelWith b_Ba_levelWith 4 (some .int) 2 0 0 [.ref z, .int p0, .int p1, .int p2] [(z, .inr (0, [.ref z_inflows_a, .ref z_losses_a, .int z_periods, .int z_draft, .int z_cap, .int z_time, .int z_volume, .int z_fails, .int z_lacking, .int z_spilt])), (z_inflows_a, .inl (cy 0, 12, .inl z_inflows)), (z_losses_a, .inl (cy 0, 10, .inl z_losses))] (some (.int out)) Bp := by
  refine CT.of (by decide) (Nat.le_of_ble_eq_true rfl) ?_
  intro p e s m below meth c A ls hx hb hr hml hB hown hlocks hnm hE hN hA hNA hP hD hS hl
  have hown : s.vm.findClass "YieldDesk$Basin" = some m.cls := hown
  have hl : lv_has ls 4 [(0, .ref z), (1, .int p0), (2, .int p1), (3, .int p2)] := hl
  have hf := h0
  unfold f_Ba_levelWith at hf
  refine lv_iload_n hx hb d_Ba_levelWith_0 rfl (lv_at hl 2 rfl) ?_
  refine lv_iload_n hx hb d_Ba_levelWith_1 rfl (lv_at hl 1 rfl) ?_
  refine lv_iadd hx hb d_Ba_levelWith_2 ?_
  refine lv_aload_n hx hb d_Ba_levelWith_3 rfl (lv_at hl 0 rfl) ?_
  refine lv_iload_n hx hb d_Ba_levelWith_4 rfl (lv_at hl 2 rfl) ?_
  obtain ⟨z1, hz1, hf⟩ := obn hf
  refine x_V (As := [.int p1]) (rest := [.int (p1 + p0)]) (wc := [(z, .inr (0, [.ref z_inflows_a, .ref z_losses_a, .int z_periods, .int z_draft, .int z_cap, .int z_time, .int z_volume, .int z_fails, .int z_lacking, .int z_spilt])), (z_inflows_a, .inl (cy 0, 12, .inl z_inflows)), (z_losses_a, .inl (cy 0, 10, .inl z_losses))]) (wr := []) (t_Ba_lossOf l G cy kz N0  z z_periods z_draft z_cap z_time z_volume z_fails z_lacking z_spilt z_inflows_a z_inflows z_losses_a z_losses p1 z1 hz1 (fun w => w = [(z, .inr (0, [.ref z_inflows_a, .ref z_losses_a, .int z_periods, .int z_draft, .int z_cap, .int z_time, .int z_volume, .int z_fails, .int z_lacking, .int z_spilt])), (z_inflows_a, .inl (cy 0, 12, .inl z_inflows)), (z_losses_a, .inl (cy 0, 10, .inl z_losses))]) rfl) hx hb hml hown hB hE hN hNA m_352 m_353 m_354 m_2 m_355 hdV_Ba_lossOf ⟨Nat.le_of_ble_eq_true rfl, Nat.le_of_ble_eq_true rfl, Nat.le_of_ble_eq_true rfl, Nat.le_of_ble_eq_true rfl⟩ hP hD hS hA 0 0 rfl rfl rfl [0, 1, 2] [] rfl rfl (by decide) (by decide) hl.1 rfl (Nat.le_of_ble_eq_true rfl) d_Ba_levelWith_5 (fun _ H locs hw hP hD hS => ?_)
  subst hw
  replace hP : va_P G classes [(z, .inr (0, [.ref z_inflows_a, .ref z_losses_a, .int z_periods, .int z_draft, .int z_cap, .int z_time, .int z_volume, .int z_fails, .int z_lacking, .int z_spilt])), (z_inflows_a, .inl (cy 0, 12, .inl z_inflows)), (z_losses_a, .inl (cy 0, 10, .inl z_losses))] H := hP.sub [0, 1, 2] rfl
  replace hD : va_D A [(z, .inr (0, [.ref z_inflows_a, .ref z_losses_a, .int z_periods, .int z_draft, .int z_cap, .int z_time, .int z_volume, .int z_fails, .int z_lacking, .int z_spilt])), (z_inflows_a, .inl (cy 0, 12, .inl z_inflows)), (z_losses_a, .inl (cy 0, 10, .inl z_losses))] := hD.sub [0, 1, 2] (by decide) rfl
  refine lv_isub hx hb d_Ba_levelWith_8 ?_
  refine lv_iload_n hx hb d_Ba_levelWith_9 rfl (lv_at hl 3 rfl) ?_
  refine lv_isub hx hb d_Ba_levelWith_10 ?_
  obtain rfl := Option.some.inj hf
  exact W.iret hx hb hr (x_ret hP hD hS hBp) hS.2.2 d_Ba_levelWith_11
set_option maxHeartbeats 4000000 in
set_option maxRecDepth 100000 in
theorem t_Ba_levelBehind (l : Launch) (G : va_G) (cy : Nat → ClassId) (kz : Nat → Nat) (N0 : Nat) (z : Nat) (z_periods : Int32) (z_draft : Int32) (z_cap : Int32) (z_time : Int32) (z_volume : Int32) (z_fails : Int32) (z_lacking : Int32) (z_spilt : Int32) (z_inflows_a : Nat) (z_inflows : Nat → Int32) (z_losses_a : Nat) (z_losses : Nat → Int32) (p0 : Int32) (p1 : Int32) (p2 : Int32) (out : Int32) (h0 : f_Ba_levelBehind z_periods z_inflows z_losses p0 p1 p2 = some out) (Bp : va_W → Prop) (hBp : Bp [(z, .inr (0, [.ref z_inflows_a, .ref z_losses_a, .int z_periods, .int z_draft, .int z_cap, .int z_time, .int z_volume, .int z_fails, .int z_lacking, .int z_spilt])), (z_inflows_a, .inl (cy 0, 12, .inl z_inflows)), (z_losses_a, .inl (cy 0, 10, .inl z_losses))]) : CT l G cy kz N0 y_Ba_levelBehind b_Ba_levelBehind 4 (some .int) 3 0 0 [.ref z, .int p0, .int p1, .int p2] [(z, .inr (0, [.ref z_inflows_a, .ref z_losses_a, .int z_periods, .int z_draft, .int z_cap, .int z_time, .int z_volume, .int z_fails, .int z_lacking, .int z_spilt])), (z_inflows_a, .inl (cy 0, 12, .inl z_inflows)), (z_losses_a, .inl (cy 0, 10, .inl z_losses))] (some (.int out)) Bp := by
  refine CT.of (by decide) (Nat.le_of_ble_eq_true rfl) ?_
  intro p e s m below meth c A ls hx hb hr hml hB hown hlocks hnm hE hN hA hNA hP hD hS hl
  have hown : s.vm.findClass "YieldDesk$Basin" = some m.cls := hown
  have hl : lv_has ls 4 [(0, .ref z), (1, .int p0), (2, .int p1), (3, .int p2)] := hl
  have hf := h0
  unfold f_Ba_levelBehind at hf
  refine lv_aload_n hx hb d_Ba_levelBehind_0 rfl (lv_at hl 0 rfl) ?_
  refine lv_aload_n hx hb d_Ba_levelBehind_1 rfl (lv_at hl 0 rfl) ?_
  refine lv_iload_n hx hb d_Ba_levelBehind_2 rfl (lv_at hl 1 rfl) ?_
  obtain ⟨z1, hz1, hf⟩ := obn hf
  refine x_V (As := [.int p0]) (rest := [.ref z]) (wc := [(z, .inr (0, [.ref z_inflows_a, .ref z_losses_a, .int z_periods, .int z_draft, .int z_cap, .int z_time, .int z_volume, .int z_fails, .int z_lacking, .int z_spilt])), (z_inflows_a, .inl (cy 0, 12, .inl z_inflows)), (z_losses_a, .inl (cy 0, 10, .inl z_losses))]) (wr := []) (t_Ba_inflowOf l G cy kz N0  z z_periods z_draft z_cap z_time z_volume z_fails z_lacking z_spilt z_inflows_a z_inflows z_losses_a z_losses p0 z1 hz1 (fun w => w = [(z, .inr (0, [.ref z_inflows_a, .ref z_losses_a, .int z_periods, .int z_draft, .int z_cap, .int z_time, .int z_volume, .int z_fails, .int z_lacking, .int z_spilt])), (z_inflows_a, .inl (cy 0, 12, .inl z_inflows)), (z_losses_a, .inl (cy 0, 10, .inl z_losses))]) rfl) hx hb hml hown hB hE hN hNA m_344 m_345 m_346 m_2 m_347 hdV_Ba_inflowOf ⟨Nat.le_of_ble_eq_true rfl, Nat.le_of_ble_eq_true rfl, Nat.le_of_ble_eq_true rfl, Nat.le_of_ble_eq_true rfl⟩ hP hD hS hA 0 0 rfl rfl rfl [0, 1, 2] [] rfl rfl (by decide) (by decide) hl.1 rfl (Nat.le_of_ble_eq_true rfl) d_Ba_levelBehind_3 (fun _ H locs hw hP hD hS => ?_)
  subst hw
  replace hP : va_P G classes [(z, .inr (0, [.ref z_inflows_a, .ref z_losses_a, .int z_periods, .int z_draft, .int z_cap, .int z_time, .int z_volume, .int z_fails, .int z_lacking, .int z_spilt])), (z_inflows_a, .inl (cy 0, 12, .inl z_inflows)), (z_losses_a, .inl (cy 0, 10, .inl z_losses))] H := hP.sub [0, 1, 2] rfl
  replace hD : va_D A [(z, .inr (0, [.ref z_inflows_a, .ref z_losses_a, .int z_periods, .int z_draft, .int z_cap, .int z_time, .int z_volume, .int z_fails, .int z_lacking, .int z_spilt])), (z_inflows_a, .inl (cy 0, 12, .inl z_inflows)), (z_losses_a, .inl (cy 0, 10, .inl z_losses))] := hD.sub [0, 1, 2] (by decide) rfl
  refine lv_iload_n hx hb d_Ba_levelBehind_6 rfl (lv_at hl 2 rfl) ?_
  refine lv_iload_n hx hb d_Ba_levelBehind_7 rfl (lv_at hl 3 rfl) ?_
  obtain ⟨z2, hz2, hf⟩ := obn hf
  refine x_V (As := [.int z1, .int p1, .int p2]) (rest := []) (wc := [(z, .inr (0, [.ref z_inflows_a, .ref z_losses_a, .int z_periods, .int z_draft, .int z_cap, .int z_time, .int z_volume, .int z_fails, .int z_lacking, .int z_spilt])), (z_inflows_a, .inl (cy 0, 12, .inl z_inflows)), (z_losses_a, .inl (cy 0, 10, .inl z_losses))]) (wr := []) (t_Ba_levelWith l G cy kz N0  z z_periods z_draft z_cap z_time z_volume z_fails z_lacking z_spilt z_inflows_a z_inflows z_losses_a z_losses z1 p1 p2 z2 hz2 (fun w => w = [(z, .inr (0, [.ref z_inflows_a, .ref z_losses_a, .int z_periods, .int z_draft, .int z_cap, .int z_time, .int z_volume, .int z_fails, .int z_lacking, .int z_spilt])), (z_inflows_a, .inl (cy 0, 12, .inl z_inflows)), (z_losses_a, .inl (cy 0, 10, .inl z_losses))]) rfl) hx hb hml hown hB hE hN hNA m_348 m_349 m_350 m_2 m_351 hdV_Ba_levelWith ⟨Nat.le_of_ble_eq_true rfl, Nat.le_of_ble_eq_true rfl, Nat.le_of_ble_eq_true rfl, Nat.le_of_ble_eq_true rfl⟩ hP hD hS hA 0 0 rfl rfl rfl [0, 1, 2] [] rfl rfl (by decide) (by decide) hl.1 rfl (Nat.le_of_ble_eq_true rfl) d_Ba_levelBehind_8 (fun _ H locs hw hP hD hS => ?_)
  subst hw
  replace hP : va_P G classes [(z, .inr (0, [.ref z_inflows_a, .ref z_losses_a, .int z_periods, .int z_draft, .int z_cap, .int z_time, .int z_volume, .int z_fails, .int z_lacking, .int z_spilt])), (z_inflows_a, .inl (cy 0, 12, .inl z_inflows)), (z_losses_a, .inl (cy 0, 10, .inl z_losses))] H := hP.sub [0, 1, 2] rfl
  replace hD : va_D A [(z, .inr (0, [.ref z_inflows_a, .ref z_losses_a, .int z_periods, .int z_draft, .int z_cap, .int z_time, .int z_volume, .int z_fails, .int z_lacking, .int z_spilt])), (z_inflows_a, .inl (cy 0, 12, .inl z_inflows)), (z_losses_a, .inl (cy 0, 10, .inl z_losses))] := hD.sub [0, 1, 2] (by decide) rfl
  obtain rfl := Option.some.inj hf
  exact W.iret hx hb hr (x_ret hP hD hS hBp) hS.2.2 d_Ba_levelBehind_11
set_option maxHeartbeats 4000000 in
set_option maxRecDepth 100000 in
theorem t_Ba_held (l : Launch) (G : va_G) (cy : Nat → ClassId) (kz : Nat → Nat) (N0 : Nat) (p0 : Int32) (p1 : Int32) (out : Int32) (h0 : f_Ba_held p0 p1 = some out) (Bp : va_W → Prop) (hBp : Bp []) : CT l G cy kz N0 y_Ba_held b_Ba_held 2 (some .int) 1 0 0 [.int p0, .int p1] [] (some (.int out)) Bp := by
  refine CT.of (by decide) (Nat.le_of_ble_eq_true rfl) ?_
  intro p e s m below meth c A ls hx hb hr hml hB hown hlocks hnm hE hN hA hNA hP hD hS hl
  have hown : s.vm.findClass "YieldDesk$Basin" = some m.cls := hown
  have hl : lv_has ls 2 [(0, .int p0), (1, .int p1)] := hl
  have hf := h0
  unfold f_Ba_held at hf
  refine lv_iconst (v := (0 : Int32)) hx hb d_Ba_held_0 (by decide) ?_
  refine lv_iload_n hx hb d_Ba_held_1 rfl (lv_at hl 0 rfl) ?_
  refine lv_iload_n hx hb d_Ba_held_2 rfl (lv_at hl 1 rfl) ?_
  refine va_mmin hx hb (hml.trans hl.1.symm) hown (hB _ m_359) (hB _ m_271) (hB _ m_10) (hB _ m_272) (Nat.le_of_ble_eq_true rfl) (Nat.le_of_ble_eq_true rfl) (Nat.le_of_ble_eq_true rfl) (Nat.le_of_ble_eq_true rfl) d_Ba_held_3 ?_
  refine va_mmax hx hb (hml.trans hl.1.symm) hown (hB _ m_360) (hB _ m_361) (hB _ m_10) (hB _ m_362) (Nat.le_of_ble_eq_true rfl) (Nat.le_of_ble_eq_true rfl) (Nat.le_of_ble_eq_true rfl) (Nat.le_of_ble_eq_true rfl) d_Ba_held_6 ?_
  obtain rfl := Option.some.inj hf
  exact W.iret hx hb hr (x_ret hP hD hS hBp) hS.2.2 d_Ba_held_9
set_option maxHeartbeats 4000000 in
set_option maxRecDepth 100000 in
theorem t_Ba_pass (l : Launch) (G : va_G) (cy : Nat → ClassId) (kz : Nat → Nat) (N0 : Nat) (z : Nat) (z_periods : Int32) (z_draft : Int32) (z_cap : Int32) (z_time : Int32) (z_volume : Int32) (z_fails : Int32) (z_lacking : Int32) (z_spilt : Int32) (z_inflows_a : Nat) (z_inflows : Nat → Int32) (z_losses_a : Nat) (z_losses : Nat → Int32) (out : Int32 × Int32 × Int32 × Int32 × Int32) (h0 : f_Ba_pass z_periods z_draft z_cap z_time z_volume z_fails z_lacking z_spilt z_inflows z_losses = some out) (Bp : va_W → Prop) (hBp : Bp [(z, .inr (0, [.ref z_inflows_a, .ref z_losses_a, .int z_periods, .int z_draft, .int z_cap, .int out.1, .int out.2.1, .int out.2.2.1, .int out.2.2.2.1, .int out.2.2.2.2])), (z_inflows_a, .inl (cy 0, 12, .inl z_inflows)), (z_losses_a, .inl (cy 0, 10, .inl z_losses))]) : CT l G cy kz N0 y_Ba_pass b_Ba_pass 2 none 4 0 0 [.ref z] [(z, .inr (0, [.ref z_inflows_a, .ref z_losses_a, .int z_periods, .int z_draft, .int z_cap, .int z_time, .int z_volume, .int z_fails, .int z_lacking, .int z_spilt])), (z_inflows_a, .inl (cy 0, 12, .inl z_inflows)), (z_losses_a, .inl (cy 0, 10, .inl z_losses))] none Bp := by
  refine CT.of (by decide) (Nat.le_of_ble_eq_true rfl) ?_
  intro p e s m below meth c A ls hx hb hr hml hB hown hlocks hnm hE hN hA hNA hP hD hS hl
  have hown : s.vm.findClass "YieldDesk$Basin" = some m.cls := hown
  have hl : lv_has ls 2 [(0, .ref z)] := hl
  have hf := h0
  unfold f_Ba_pass at hf
  refine lv_aload_n hx hb d_Ba_pass_0 rfl (lv_at hl 0 rfl) ?_
  refine lv_aload_n hx hb d_Ba_pass_1 rfl (lv_at hl 0 rfl) ?_
  refine va_get (D := G) (ci := 0) (v := .int z_time) (C := "YieldDesk$Basin") (T := F_Ba) (N := 10) hx hb hB fi_Ba hown hE.1 hP 0 rfl rfl 5 (by decide) (hB _ m_41) (fun _ h9 => h9) rfl d_Ba_pass_2 ?_
  refine lv_aload_n hx hb d_Ba_pass_5 rfl (lv_at hl 0 rfl) ?_
  refine va_get (D := G) (ci := 0) (v := .int z_volume) (C := "YieldDesk$Basin") (T := F_Ba) (N := 10) hx hb hB fi_Ba hown hE.1 hP 0 rfl rfl 6 (by decide) (hB _ m_43) (fun _ h9 => h9) rfl d_Ba_pass_6 ?_
  refine lv_aload_n hx hb d_Ba_pass_9 rfl (lv_at hl 0 rfl) ?_
  refine va_get (D := G) (ci := 0) (v := .int z_draft) (C := "YieldDesk$Basin") (T := F_Ba) (N := 10) hx hb hB fi_Ba hown hE.1 hP 0 rfl rfl 3 (by decide) (hB _ m_32) (fun _ h9 => h9) rfl d_Ba_pass_10 ?_
  obtain ⟨z1, hz1, hf⟩ := obn hf
  refine x_V (As := [.int z_time, .int z_volume, .int z_draft]) (rest := []) (wc := [(z, .inr (0, [.ref z_inflows_a, .ref z_losses_a, .int z_periods, .int z_draft, .int z_cap, .int z_time, .int z_volume, .int z_fails, .int z_lacking, .int z_spilt])), (z_inflows_a, .inl (cy 0, 12, .inl z_inflows)), (z_losses_a, .inl (cy 0, 10, .inl z_losses))]) (wr := []) (t_Ba_levelBehind l G cy kz N0  z z_periods z_draft z_cap z_time z_volume z_fails z_lacking z_spilt z_inflows_a z_inflows z_losses_a z_losses z_time z_volume z_draft z1 hz1 (fun w => w = [(z, .inr (0, [.ref z_inflows_a, .ref z_losses_a, .int z_periods, .int z_draft, .int z_cap, .int z_time, .int z_volume, .int z_fails, .int z_lacking, .int z_spilt])), (z_inflows_a, .inl (cy 0, 12, .inl z_inflows)), (z_losses_a, .inl (cy 0, 10, .inl z_losses))]) rfl) hx hb hml hown hB hE hN hNA m_340 m_341 m_342 m_2 m_343 hdV_Ba_levelBehind ⟨Nat.le_of_ble_eq_true rfl, Nat.le_of_ble_eq_true rfl, Nat.le_of_ble_eq_true rfl, Nat.le_of_ble_eq_true rfl⟩ hP hD hS hA 0 0 rfl rfl rfl [0, 1, 2] [] rfl rfl (by decide) (by decide) hl.1 rfl (Nat.le_of_ble_eq_true rfl) d_Ba_pass_13 (fun _ H locs hw hP hD hS => ?_)
  subst hw
  replace hP : va_P G classes [(z, .inr (0, [.ref z_inflows_a, .ref z_losses_a, .int z_periods, .int z_draft, .int z_cap, .int z_time, .int z_volume, .int z_fails, .int z_lacking, .int z_spilt])), (z_inflows_a, .inl (cy 0, 12, .inl z_inflows)), (z_losses_a, .inl (cy 0, 10, .inl z_losses))] H := hP.sub [0, 1, 2] rfl
  replace hD : va_D A [(z, .inr (0, [.ref z_inflows_a, .ref z_losses_a, .int z_periods, .int z_draft, .int z_cap, .int z_time, .int z_volume, .int z_fails, .int z_lacking, .int z_spilt])), (z_inflows_a, .inl (cy 0, 12, .inl z_inflows)), (z_losses_a, .inl (cy 0, 10, .inl z_losses))] := hD.sub [0, 1, 2] (by decide) rfl
  refine lv_istore_n (lv' := [(1, .int z1), (0, .ref z)]) hx hb d_Ba_pass_16 rfl hl (by decide) rfl (fun ls hl => ?_)
  refine lv_iload_n hx hb d_Ba_pass_17 rfl (lv_at hl 0 rfl) ?_
  refine lv_if_ge (tgt := 41) hx hb d_Ba_pass_18 (by decide) (fun hc2 => ?_) (fun hc2 => ?_)
  · replace hf := iteP hc2 hf
    refine lv_iload_n hx hb d_Ba_pass_41 rfl (lv_at hl 0 rfl) ?_
    refine lv_aload_n hx hb d_Ba_pass_42 rfl (lv_at hl 1 rfl) ?_
    refine va_get (D := G) (ci := 0) (v := .int z_cap) (C := "YieldDesk$Basin") (T := F_Ba) (N := 10) hx hb hB fi_Ba hown hE.1 hP 0 rfl rfl 4 (by decide) (hB _ m_36) (fun _ h9 => h9) rfl d_Ba_pass_43 ?_
    refine lv_icmp_le (tgt := 64) hx hb d_Ba_pass_46 (by decide) (fun hc3 => ?_) (fun hc3 => ?_)
    · replace hf := iteP hc3 hf
      refine lv_aload_n hx hb d_Ba_pass_64 rfl (lv_at hl 1 rfl) ?_
      refine lv_iload_n hx hb d_Ba_pass_65 rfl (lv_at hl 0 rfl) ?_
      refine lv_aload_n hx hb d_Ba_pass_66 rfl (lv_at hl 1 rfl) ?_
      refine va_get (D := G) (ci := 0) (v := .int z_cap) (C := "YieldDesk$Basin") (T := F_Ba) (N := 10) hx hb hB fi_Ba hown hE.1 hP 0 rfl rfl 4 (by decide) (hB _ m_36) (fun _ h9 => h9) rfl d_Ba_pass_67 ?_
      obtain ⟨z4, hz4, hf⟩ := obn hf
      refine x_S0 (As := [.int z1, .int z_cap]) (rest := [.ref z]) (t_Ba_held l G cy kz N0  z1 z_cap z4 hz4 (fun w => w = []) rfl) hx hb hml hown hB hE hN hNA m_356 m_357 m_2 m_358 hdS_Ba_held ⟨Nat.le_of_ble_eq_true rfl, Nat.le_of_ble_eq_true rfl, Nat.le_of_ble_eq_true rfl, Nat.le_of_ble_eq_true rfl⟩ hP hD hS hA hl.1 rfl (Nat.le_of_ble_eq_true rfl) d_Ba_pass_70 (fun H locs hP hD hS => ?_)
      refine va_put (D := G) (ci := 0) (v := .int z4) (ty := .int) (C := "YieldDesk$Basin") (T := F_Ba) (N := 10) hx hb hB fi_Ba ft_Ba fo_Ba fn_Ba hown hE.1 hP hD hS 0 rfl rfl 6 (by decide) (hB _ m_43) (fun _ h9 => h9) rfl (by decide +kernel) rfl rfl (Nat.le_of_ble_eq_true rfl) d_Ba_pass_73 (fun H locs hP hD hS => ?_)
      have hP : va_P G classes [(z, .inr (0, [.ref z_inflows_a, .ref z_losses_a, .int z_periods, .int z_draft, .int z_cap, .int z_time, .int z4, .int z_fails, .int z_lacking, .int z_spilt])), (z_inflows_a, .inl (cy 0, 12, .inl z_inflows)), (z_losses_a, .inl (cy 0, 10, .inl z_losses))] H := hP
      have hD : va_D A [(z, .inr (0, [.ref z_inflows_a, .ref z_losses_a, .int z_periods, .int z_draft, .int z_cap, .int z_time, .int z4, .int z_fails, .int z_lacking, .int z_spilt])), (z_inflows_a, .inl (cy 0, 12, .inl z_inflows)), (z_losses_a, .inl (cy 0, 10, .inl z_losses))] := hD
      refine lv_aload_n hx hb d_Ba_pass_76 rfl (lv_at hl 1 rfl) ?_
      refine lv_dup hx hb d_Ba_pass_77 rfl ?_
      refine va_get (D := G) (ci := 0) (v := .int z_time) (C := "YieldDesk$Basin") (T := F_Ba) (N := 10) hx hb hB fi_Ba hown hE.1 hP 0 rfl rfl 5 (by decide) (hB _ m_41) (fun _ h9 => h9) rfl d_Ba_pass_78 ?_
      refine lv_iconst (v := (1 : Int32)) hx hb d_Ba_pass_81 (by decide) ?_
      refine lv_iadd hx hb d_Ba_pass_82 ?_
      refine va_put (D := G) (ci := 0) (v := .int (z_time + (1 : Int32))) (ty := .int) (C := "YieldDesk$Basin") (T := F_Ba) (N := 10) hx hb hB fi_Ba ft_Ba fo_Ba fn_Ba hown hE.1 hP hD hS 0 rfl rfl 5 (by decide) (hB _ m_41) (fun _ h9 => h9) rfl (by decide +kernel) rfl rfl (Nat.le_of_ble_eq_true rfl) d_Ba_pass_83 (fun H locs hP hD hS => ?_)
      have hP : va_P G classes [(z, .inr (0, [.ref z_inflows_a, .ref z_losses_a, .int z_periods, .int z_draft, .int z_cap, .int (z_time + (1 : Int32)), .int z4, .int z_fails, .int z_lacking, .int z_spilt])), (z_inflows_a, .inl (cy 0, 12, .inl z_inflows)), (z_losses_a, .inl (cy 0, 10, .inl z_losses))] H := hP
      have hD : va_D A [(z, .inr (0, [.ref z_inflows_a, .ref z_losses_a, .int z_periods, .int z_draft, .int z_cap, .int (z_time + (1 : Int32)), .int z4, .int z_fails, .int z_lacking, .int z_spilt])), (z_inflows_a, .inl (cy 0, 12, .inl z_inflows)), (z_losses_a, .inl (cy 0, 10, .inl z_losses))] := hD
      obtain rfl := Option.some.inj hf
      exact W.vret hx hb hr (x_ret hP hD hS hBp) hS.2.2 d_Ba_pass_86
    · replace hf := iteN hc3 hf
      refine lv_aload_n hx hb d_Ba_pass_49 rfl (lv_at hl 1 rfl) ?_
      refine lv_dup hx hb d_Ba_pass_50 rfl ?_
      refine va_get (D := G) (ci := 0) (v := .int z_spilt) (C := "YieldDesk$Basin") (T := F_Ba) (N := 10) hx hb hB fi_Ba hown hE.1 hP 0 rfl rfl 9 (by decide) (hB _ m_50) (fun _ h9 => h9) rfl d_Ba_pass_51 ?_
      refine lv_iload_n hx hb d_Ba_pass_54 rfl (lv_at hl 0 rfl) ?_
      refine lv_aload_n hx hb d_Ba_pass_55 rfl (lv_at hl 1 rfl) ?_
      refine va_get (D := G) (ci := 0) (v := .int z_cap) (C := "YieldDesk$Basin") (T := F_Ba) (N := 10) hx hb hB fi_Ba hown hE.1 hP 0 rfl rfl 4 (by decide) (hB _ m_36) (fun _ h9 => h9) rfl d_Ba_pass_56 ?_
      refine lv_isub hx hb d_Ba_pass_59 ?_
      refine lv_iadd hx hb d_Ba_pass_60 ?_
      refine va_put (D := G) (ci := 0) (v := .int (z_spilt + (z1 - z_cap))) (ty := .int) (C := "YieldDesk$Basin") (T := F_Ba) (N := 10) hx hb hB fi_Ba ft_Ba fo_Ba fn_Ba hown hE.1 hP hD hS 0 rfl rfl 9 (by decide) (hB _ m_50) (fun _ h9 => h9) rfl (by decide +kernel) rfl rfl (Nat.le_of_ble_eq_true rfl) d_Ba_pass_61 (fun H locs hP hD hS => ?_)
      have hP : va_P G classes [(z, .inr (0, [.ref z_inflows_a, .ref z_losses_a, .int z_periods, .int z_draft, .int z_cap, .int z_time, .int z_volume, .int z_fails, .int z_lacking, .int (z_spilt + (z1 - z_cap))])), (z_inflows_a, .inl (cy 0, 12, .inl z_inflows)), (z_losses_a, .inl (cy 0, 10, .inl z_losses))] H := hP
      have hD : va_D A [(z, .inr (0, [.ref z_inflows_a, .ref z_losses_a, .int z_periods, .int z_draft, .int z_cap, .int z_time, .int z_volume, .int z_fails, .int z_lacking, .int (z_spilt + (z1 - z_cap))])), (z_inflows_a, .inl (cy 0, 12, .inl z_inflows)), (z_losses_a, .inl (cy 0, 10, .inl z_losses))] := hD
      refine lv_aload_n hx hb d_Ba_pass_64 rfl (lv_at hl 1 rfl) ?_
      refine lv_iload_n hx hb d_Ba_pass_65 rfl (lv_at hl 0 rfl) ?_
      refine lv_aload_n hx hb d_Ba_pass_66 rfl (lv_at hl 1 rfl) ?_
      refine va_get (D := G) (ci := 0) (v := .int z_cap) (C := "YieldDesk$Basin") (T := F_Ba) (N := 10) hx hb hB fi_Ba hown hE.1 hP 0 rfl rfl 4 (by decide) (hB _ m_36) (fun _ h9 => h9) rfl d_Ba_pass_67 ?_
      obtain ⟨z5, hz5, hf⟩ := obn hf
      refine x_S0 (As := [.int z1, .int z_cap]) (rest := [.ref z]) (t_Ba_held l G cy kz N0  z1 z_cap z5 hz5 (fun w => w = []) rfl) hx hb hml hown hB hE hN hNA m_356 m_357 m_2 m_358 hdS_Ba_held ⟨Nat.le_of_ble_eq_true rfl, Nat.le_of_ble_eq_true rfl, Nat.le_of_ble_eq_true rfl, Nat.le_of_ble_eq_true rfl⟩ hP hD hS hA hl.1 rfl (Nat.le_of_ble_eq_true rfl) d_Ba_pass_70 (fun H locs hP hD hS => ?_)
      refine va_put (D := G) (ci := 0) (v := .int z5) (ty := .int) (C := "YieldDesk$Basin") (T := F_Ba) (N := 10) hx hb hB fi_Ba ft_Ba fo_Ba fn_Ba hown hE.1 hP hD hS 0 rfl rfl 6 (by decide) (hB _ m_43) (fun _ h9 => h9) rfl (by decide +kernel) rfl rfl (Nat.le_of_ble_eq_true rfl) d_Ba_pass_73 (fun H locs hP hD hS => ?_)
      have hP : va_P G classes [(z, .inr (0, [.ref z_inflows_a, .ref z_losses_a, .int z_periods, .int z_draft, .int z_cap, .int z_time, .int z5, .int z_fails, .int z_lacking, .int (z_spilt + (z1 - z_cap))])), (z_inflows_a, .inl (cy 0, 12, .inl z_inflows)), (z_losses_a, .inl (cy 0, 10, .inl z_losses))] H := hP
      have hD : va_D A [(z, .inr (0, [.ref z_inflows_a, .ref z_losses_a, .int z_periods, .int z_draft, .int z_cap, .int z_time, .int z5, .int z_fails, .int z_lacking, .int (z_spilt + (z1 - z_cap))])), (z_inflows_a, .inl (cy 0, 12, .inl z_inflows)), (z_losses_a, .inl (cy 0, 10, .inl z_losses))] := hD
      refine lv_aload_n hx hb d_Ba_pass_76 rfl (lv_at hl 1 rfl) ?_
      refine lv_dup hx hb d_Ba_pass_77 rfl ?_
      refine va_get (D := G) (ci := 0) (v := .int z_time) (C := "YieldDesk$Basin") (T := F_Ba) (N := 10) hx hb hB fi_Ba hown hE.1 hP 0 rfl rfl 5 (by decide) (hB _ m_41) (fun _ h9 => h9) rfl d_Ba_pass_78 ?_
      refine lv_iconst (v := (1 : Int32)) hx hb d_Ba_pass_81 (by decide) ?_
      refine lv_iadd hx hb d_Ba_pass_82 ?_
      refine va_put (D := G) (ci := 0) (v := .int (z_time + (1 : Int32))) (ty := .int) (C := "YieldDesk$Basin") (T := F_Ba) (N := 10) hx hb hB fi_Ba ft_Ba fo_Ba fn_Ba hown hE.1 hP hD hS 0 rfl rfl 5 (by decide) (hB _ m_41) (fun _ h9 => h9) rfl (by decide +kernel) rfl rfl (Nat.le_of_ble_eq_true rfl) d_Ba_pass_83 (fun H locs hP hD hS => ?_)
      have hP : va_P G classes [(z, .inr (0, [.ref z_inflows_a, .ref z_losses_a, .int z_periods, .int z_draft, .int z_cap, .int (z_time + (1 : Int32)), .int z5, .int z_fails, .int z_lacking, .int (z_spilt + (z1 - z_cap))])), (z_inflows_a, .inl (cy 0, 12, .inl z_inflows)), (z_losses_a, .inl (cy 0, 10, .inl z_losses))] H := hP
      have hD : va_D A [(z, .inr (0, [.ref z_inflows_a, .ref z_losses_a, .int z_periods, .int z_draft, .int z_cap, .int (z_time + (1 : Int32)), .int z5, .int z_fails, .int z_lacking, .int (z_spilt + (z1 - z_cap))])), (z_inflows_a, .inl (cy 0, 12, .inl z_inflows)), (z_losses_a, .inl (cy 0, 10, .inl z_losses))] := hD
      obtain rfl := Option.some.inj hf
      exact W.vret hx hb hr (x_ret hP hD hS hBp) hS.2.2 d_Ba_pass_86
  · replace hf := iteN hc2 hf
    refine lv_aload_n hx hb d_Ba_pass_21 rfl (lv_at hl 1 rfl) ?_
    refine lv_dup hx hb d_Ba_pass_22 rfl ?_
    refine va_get (D := G) (ci := 0) (v := .int z_fails) (C := "YieldDesk$Basin") (T := F_Ba) (N := 10) hx hb hB fi_Ba hown hE.1 hP 0 rfl rfl 7 (by decide) (hB _ m_46) (fun _ h9 => h9) rfl d_Ba_pass_23 ?_
    refine lv_iconst (v := (1 : Int32)) hx hb d_Ba_pass_26 (by decide) ?_
    refine lv_iadd hx hb d_Ba_pass_27 ?_
    refine va_put (D := G) (ci := 0) (v := .int (z_fails + (1 : Int32))) (ty := .int) (C := "YieldDesk$Basin") (T := F_Ba) (N := 10) hx hb hB fi_Ba ft_Ba fo_Ba fn_Ba hown hE.1 hP hD hS 0 rfl rfl 7 (by decide) (hB _ m_46) (fun _ h9 => h9) rfl (by decide +kernel) rfl rfl (Nat.le_of_ble_eq_true rfl) d_Ba_pass_28 (fun H locs hP hD hS => ?_)
    have hP : va_P G classes [(z, .inr (0, [.ref z_inflows_a, .ref z_losses_a, .int z_periods, .int z_draft, .int z_cap, .int z_time, .int z_volume, .int (z_fails + (1 : Int32)), .int z_lacking, .int z_spilt])), (z_inflows_a, .inl (cy 0, 12, .inl z_inflows)), (z_losses_a, .inl (cy 0, 10, .inl z_losses))] H := hP
    have hD : va_D A [(z, .inr (0, [.ref z_inflows_a, .ref z_losses_a, .int z_periods, .int z_draft, .int z_cap, .int z_time, .int z_volume, .int (z_fails + (1 : Int32)), .int z_lacking, .int z_spilt])), (z_inflows_a, .inl (cy 0, 12, .inl z_inflows)), (z_losses_a, .inl (cy 0, 10, .inl z_losses))] := hD
    refine lv_aload_n hx hb d_Ba_pass_31 rfl (lv_at hl 1 rfl) ?_
    refine lv_dup hx hb d_Ba_pass_32 rfl ?_
    refine va_get (D := G) (ci := 0) (v := .int z_lacking) (C := "YieldDesk$Basin") (T := F_Ba) (N := 10) hx hb hB fi_Ba hown hE.1 hP 0 rfl rfl 8 (by decide) (hB _ m_48) (fun _ h9 => h9) rfl d_Ba_pass_33 ?_
    refine lv_iload_n hx hb d_Ba_pass_36 rfl (lv_at hl 0 rfl) ?_
    refine lv_isub hx hb d_Ba_pass_37 ?_
    refine va_put (D := G) (ci := 0) (v := .int (z_lacking - z1)) (ty := .int) (C := "YieldDesk$Basin") (T := F_Ba) (N := 10) hx hb hB fi_Ba ft_Ba fo_Ba fn_Ba hown hE.1 hP hD hS 0 rfl rfl 8 (by decide) (hB _ m_48) (fun _ h9 => h9) rfl (by decide +kernel) rfl rfl (Nat.le_of_ble_eq_true rfl) d_Ba_pass_38 (fun H locs hP hD hS => ?_)
    have hP : va_P G classes [(z, .inr (0, [.ref z_inflows_a, .ref z_losses_a, .int z_periods, .int z_draft, .int z_cap, .int z_time, .int z_volume, .int (z_fails + (1 : Int32)), .int (z_lacking - z1), .int z_spilt])), (z_inflows_a, .inl (cy 0, 12, .inl z_inflows)), (z_losses_a, .inl (cy 0, 10, .inl z_losses))] H := hP
    have hD : va_D A [(z, .inr (0, [.ref z_inflows_a, .ref z_losses_a, .int z_periods, .int z_draft, .int z_cap, .int z_time, .int z_volume, .int (z_fails + (1 : Int32)), .int (z_lacking - z1), .int z_spilt])), (z_inflows_a, .inl (cy 0, 12, .inl z_inflows)), (z_losses_a, .inl (cy 0, 10, .inl z_losses))] := hD
    refine lv_iload_n hx hb d_Ba_pass_41 rfl (lv_at hl 0 rfl) ?_
    refine lv_aload_n hx hb d_Ba_pass_42 rfl (lv_at hl 1 rfl) ?_
    refine va_get (D := G) (ci := 0) (v := .int z_cap) (C := "YieldDesk$Basin") (T := F_Ba) (N := 10) hx hb hB fi_Ba hown hE.1 hP 0 rfl rfl 4 (by decide) (hB _ m_36) (fun _ h9 => h9) rfl d_Ba_pass_43 ?_
    refine lv_icmp_le (tgt := 64) hx hb d_Ba_pass_46 (by decide) (fun hc6 => ?_) (fun hc6 => ?_)
    · replace hf := iteP hc6 hf
      refine lv_aload_n hx hb d_Ba_pass_64 rfl (lv_at hl 1 rfl) ?_
      refine lv_iload_n hx hb d_Ba_pass_65 rfl (lv_at hl 0 rfl) ?_
      refine lv_aload_n hx hb d_Ba_pass_66 rfl (lv_at hl 1 rfl) ?_
      refine va_get (D := G) (ci := 0) (v := .int z_cap) (C := "YieldDesk$Basin") (T := F_Ba) (N := 10) hx hb hB fi_Ba hown hE.1 hP 0 rfl rfl 4 (by decide) (hB _ m_36) (fun _ h9 => h9) rfl d_Ba_pass_67 ?_
      obtain ⟨z7, hz7, hf⟩ := obn hf
      refine x_S0 (As := [.int z1, .int z_cap]) (rest := [.ref z]) (t_Ba_held l G cy kz N0  z1 z_cap z7 hz7 (fun w => w = []) rfl) hx hb hml hown hB hE hN hNA m_356 m_357 m_2 m_358 hdS_Ba_held ⟨Nat.le_of_ble_eq_true rfl, Nat.le_of_ble_eq_true rfl, Nat.le_of_ble_eq_true rfl, Nat.le_of_ble_eq_true rfl⟩ hP hD hS hA hl.1 rfl (Nat.le_of_ble_eq_true rfl) d_Ba_pass_70 (fun H locs hP hD hS => ?_)
      refine va_put (D := G) (ci := 0) (v := .int z7) (ty := .int) (C := "YieldDesk$Basin") (T := F_Ba) (N := 10) hx hb hB fi_Ba ft_Ba fo_Ba fn_Ba hown hE.1 hP hD hS 0 rfl rfl 6 (by decide) (hB _ m_43) (fun _ h9 => h9) rfl (by decide +kernel) rfl rfl (Nat.le_of_ble_eq_true rfl) d_Ba_pass_73 (fun H locs hP hD hS => ?_)
      have hP : va_P G classes [(z, .inr (0, [.ref z_inflows_a, .ref z_losses_a, .int z_periods, .int z_draft, .int z_cap, .int z_time, .int z7, .int (z_fails + (1 : Int32)), .int (z_lacking - z1), .int z_spilt])), (z_inflows_a, .inl (cy 0, 12, .inl z_inflows)), (z_losses_a, .inl (cy 0, 10, .inl z_losses))] H := hP
      have hD : va_D A [(z, .inr (0, [.ref z_inflows_a, .ref z_losses_a, .int z_periods, .int z_draft, .int z_cap, .int z_time, .int z7, .int (z_fails + (1 : Int32)), .int (z_lacking - z1), .int z_spilt])), (z_inflows_a, .inl (cy 0, 12, .inl z_inflows)), (z_losses_a, .inl (cy 0, 10, .inl z_losses))] := hD
      refine lv_aload_n hx hb d_Ba_pass_76 rfl (lv_at hl 1 rfl) ?_
      refine lv_dup hx hb d_Ba_pass_77 rfl ?_
      refine va_get (D := G) (ci := 0) (v := .int z_time) (C := "YieldDesk$Basin") (T := F_Ba) (N := 10) hx hb hB fi_Ba hown hE.1 hP 0 rfl rfl 5 (by decide) (hB _ m_41) (fun _ h9 => h9) rfl d_Ba_pass_78 ?_
      refine lv_iconst (v := (1 : Int32)) hx hb d_Ba_pass_81 (by decide) ?_
      refine lv_iadd hx hb d_Ba_pass_82 ?_
      refine va_put (D := G) (ci := 0) (v := .int (z_time + (1 : Int32))) (ty := .int) (C := "YieldDesk$Basin") (T := F_Ba) (N := 10) hx hb hB fi_Ba ft_Ba fo_Ba fn_Ba hown hE.1 hP hD hS 0 rfl rfl 5 (by decide) (hB _ m_41) (fun _ h9 => h9) rfl (by decide +kernel) rfl rfl (Nat.le_of_ble_eq_true rfl) d_Ba_pass_83 (fun H locs hP hD hS => ?_)
      have hP : va_P G classes [(z, .inr (0, [.ref z_inflows_a, .ref z_losses_a, .int z_periods, .int z_draft, .int z_cap, .int (z_time + (1 : Int32)), .int z7, .int (z_fails + (1 : Int32)), .int (z_lacking - z1), .int z_spilt])), (z_inflows_a, .inl (cy 0, 12, .inl z_inflows)), (z_losses_a, .inl (cy 0, 10, .inl z_losses))] H := hP
      have hD : va_D A [(z, .inr (0, [.ref z_inflows_a, .ref z_losses_a, .int z_periods, .int z_draft, .int z_cap, .int (z_time + (1 : Int32)), .int z7, .int (z_fails + (1 : Int32)), .int (z_lacking - z1), .int z_spilt])), (z_inflows_a, .inl (cy 0, 12, .inl z_inflows)), (z_losses_a, .inl (cy 0, 10, .inl z_losses))] := hD
      obtain rfl := Option.some.inj hf
      exact W.vret hx hb hr (x_ret hP hD hS hBp) hS.2.2 d_Ba_pass_86
    · replace hf := iteN hc6 hf
      refine lv_aload_n hx hb d_Ba_pass_49 rfl (lv_at hl 1 rfl) ?_
      refine lv_dup hx hb d_Ba_pass_50 rfl ?_
      refine va_get (D := G) (ci := 0) (v := .int z_spilt) (C := "YieldDesk$Basin") (T := F_Ba) (N := 10) hx hb hB fi_Ba hown hE.1 hP 0 rfl rfl 9 (by decide) (hB _ m_50) (fun _ h9 => h9) rfl d_Ba_pass_51 ?_
      refine lv_iload_n hx hb d_Ba_pass_54 rfl (lv_at hl 0 rfl) ?_
      refine lv_aload_n hx hb d_Ba_pass_55 rfl (lv_at hl 1 rfl) ?_
      refine va_get (D := G) (ci := 0) (v := .int z_cap) (C := "YieldDesk$Basin") (T := F_Ba) (N := 10) hx hb hB fi_Ba hown hE.1 hP 0 rfl rfl 4 (by decide) (hB _ m_36) (fun _ h9 => h9) rfl d_Ba_pass_56 ?_
      refine lv_isub hx hb d_Ba_pass_59 ?_
      refine lv_iadd hx hb d_Ba_pass_60 ?_
      refine va_put (D := G) (ci := 0) (v := .int (z_spilt + (z1 - z_cap))) (ty := .int) (C := "YieldDesk$Basin") (T := F_Ba) (N := 10) hx hb hB fi_Ba ft_Ba fo_Ba fn_Ba hown hE.1 hP hD hS 0 rfl rfl 9 (by decide) (hB _ m_50) (fun _ h9 => h9) rfl (by decide +kernel) rfl rfl (Nat.le_of_ble_eq_true rfl) d_Ba_pass_61 (fun H locs hP hD hS => ?_)
      have hP : va_P G classes [(z, .inr (0, [.ref z_inflows_a, .ref z_losses_a, .int z_periods, .int z_draft, .int z_cap, .int z_time, .int z_volume, .int (z_fails + (1 : Int32)), .int (z_lacking - z1), .int (z_spilt + (z1 - z_cap))])), (z_inflows_a, .inl (cy 0, 12, .inl z_inflows)), (z_losses_a, .inl (cy 0, 10, .inl z_losses))] H := hP
      have hD : va_D A [(z, .inr (0, [.ref z_inflows_a, .ref z_losses_a, .int z_periods, .int z_draft, .int z_cap, .int z_time, .int z_volume, .int (z_fails + (1 : Int32)), .int (z_lacking - z1), .int (z_spilt + (z1 - z_cap))])), (z_inflows_a, .inl (cy 0, 12, .inl z_inflows)), (z_losses_a, .inl (cy 0, 10, .inl z_losses))] := hD
      refine lv_aload_n hx hb d_Ba_pass_64 rfl (lv_at hl 1 rfl) ?_
      refine lv_iload_n hx hb d_Ba_pass_65 rfl (lv_at hl 0 rfl) ?_
      refine lv_aload_n hx hb d_Ba_pass_66 rfl (lv_at hl 1 rfl) ?_
      refine va_get (D := G) (ci := 0) (v := .int z_cap) (C := "YieldDesk$Basin") (T := F_Ba) (N := 10) hx hb hB fi_Ba hown hE.1 hP 0 rfl rfl 4 (by decide) (hB _ m_36) (fun _ h9 => h9) rfl d_Ba_pass_67 ?_
      obtain ⟨z8, hz8, hf⟩ := obn hf
      refine x_S0 (As := [.int z1, .int z_cap]) (rest := [.ref z]) (t_Ba_held l G cy kz N0  z1 z_cap z8 hz8 (fun w => w = []) rfl) hx hb hml hown hB hE hN hNA m_356 m_357 m_2 m_358 hdS_Ba_held ⟨Nat.le_of_ble_eq_true rfl, Nat.le_of_ble_eq_true rfl, Nat.le_of_ble_eq_true rfl, Nat.le_of_ble_eq_true rfl⟩ hP hD hS hA hl.1 rfl (Nat.le_of_ble_eq_true rfl) d_Ba_pass_70 (fun H locs hP hD hS => ?_)
      refine va_put (D := G) (ci := 0) (v := .int z8) (ty := .int) (C := "YieldDesk$Basin") (T := F_Ba) (N := 10) hx hb hB fi_Ba ft_Ba fo_Ba fn_Ba hown hE.1 hP hD hS 0 rfl rfl 6 (by decide) (hB _ m_43) (fun _ h9 => h9) rfl (by decide +kernel) rfl rfl (Nat.le_of_ble_eq_true rfl) d_Ba_pass_73 (fun H locs hP hD hS => ?_)
      have hP : va_P G classes [(z, .inr (0, [.ref z_inflows_a, .ref z_losses_a, .int z_periods, .int z_draft, .int z_cap, .int z_time, .int z8, .int (z_fails + (1 : Int32)), .int (z_lacking - z1), .int (z_spilt + (z1 - z_cap))])), (z_inflows_a, .inl (cy 0, 12, .inl z_inflows)), (z_losses_a, .inl (cy 0, 10, .inl z_losses))] H := hP
      have hD : va_D A [(z, .inr (0, [.ref z_inflows_a, .ref z_losses_a, .int z_periods, .int z_draft, .int z_cap, .int z_time, .int z8, .int (z_fails + (1 : Int32)), .int (z_lacking - z1), .int (z_spilt + (z1 - z_cap))])), (z_inflows_a, .inl (cy 0, 12, .inl z_inflows)), (z_losses_a, .inl (cy 0, 10, .inl z_losses))] := hD
      refine lv_aload_n hx hb d_Ba_pass_76 rfl (lv_at hl 1 rfl) ?_
      refine lv_dup hx hb d_Ba_pass_77 rfl ?_
      refine va_get (D := G) (ci := 0) (v := .int z_time) (C := "YieldDesk$Basin") (T := F_Ba) (N := 10) hx hb hB fi_Ba hown hE.1 hP 0 rfl rfl 5 (by decide) (hB _ m_41) (fun _ h9 => h9) rfl d_Ba_pass_78 ?_
      refine lv_iconst (v := (1 : Int32)) hx hb d_Ba_pass_81 (by decide) ?_
      refine lv_iadd hx hb d_Ba_pass_82 ?_
      refine va_put (D := G) (ci := 0) (v := .int (z_time + (1 : Int32))) (ty := .int) (C := "YieldDesk$Basin") (T := F_Ba) (N := 10) hx hb hB fi_Ba ft_Ba fo_Ba fn_Ba hown hE.1 hP hD hS 0 rfl rfl 5 (by decide) (hB _ m_41) (fun _ h9 => h9) rfl (by decide +kernel) rfl rfl (Nat.le_of_ble_eq_true rfl) d_Ba_pass_83 (fun H locs hP hD hS => ?_)
      have hP : va_P G classes [(z, .inr (0, [.ref z_inflows_a, .ref z_losses_a, .int z_periods, .int z_draft, .int z_cap, .int (z_time + (1 : Int32)), .int z8, .int (z_fails + (1 : Int32)), .int (z_lacking - z1), .int (z_spilt + (z1 - z_cap))])), (z_inflows_a, .inl (cy 0, 12, .inl z_inflows)), (z_losses_a, .inl (cy 0, 10, .inl z_losses))] H := hP
      have hD : va_D A [(z, .inr (0, [.ref z_inflows_a, .ref z_losses_a, .int z_periods, .int z_draft, .int z_cap, .int (z_time + (1 : Int32)), .int z8, .int (z_fails + (1 : Int32)), .int (z_lacking - z1), .int (z_spilt + (z1 - z_cap))])), (z_inflows_a, .inl (cy 0, 12, .inl z_inflows)), (z_losses_a, .inl (cy 0, 10, .inl z_losses))] := hD
      obtain rfl := Option.some.inj hf
      exact W.vret hx hb hr (x_ret hP hD hS hBp) hS.2.2 d_Ba_pass_86
set_option maxHeartbeats 4000000 in
set_option maxRecDepth 100000 in
theorem t_Ba_changeCap (l : Launch) (G : va_G) (cy : Nat → ClassId) (kz : Nat → Nat) (N0 : Nat) (z : Nat) (z_periods : Int32) (z_draft : Int32) (z_cap : Int32) (z_time : Int32) (z_volume : Int32) (z_fails : Int32) (z_lacking : Int32) (z_spilt : Int32) (z_inflows_a : Nat) (z_inflows : Nat → Int32) (z_losses_a : Nat) (z_losses : Nat → Int32) (p0 : Int32) (out : Int32 × Int32 × Int32) (h0 : f_Ba_changeCap z_volume z_spilt p0 = some out) (Bp : va_W → Prop) (hBp : Bp [(z, .inr (0, [.ref z_inflows_a, .ref z_losses_a, .int z_periods, .int z_draft, .int out.1, .int z_time, .int out.2.1, .int z_fails, .int z_lacking, .int out.2.2])), (z_inflows_a, .inl (cy 0, 12, .inl z_inflows)), (z_losses_a, .inl (cy 0, 10, .inl z_losses))]) : CT l G cy kz N0 y_Ba_changeCap b_Ba_changeCap 2 none 0 0 0 [.ref z, .int p0] [(z, .inr (0, [.ref z_inflows_a, .ref z_losses_a, .int z_periods, .int z_draft, .int z_cap, .int z_time, .int z_volume, .int z_fails, .int z_lacking, .int z_spilt])), (z_inflows_a, .inl (cy 0, 12, .inl z_inflows)), (z_losses_a, .inl (cy 0, 10, .inl z_losses))] none Bp := by
  refine CT.of (by decide) (Nat.le_of_ble_eq_true rfl) ?_
  intro p e s m below meth c A ls hx hb hr hml hB hown hlocks hnm hE hN hA hNA hP hD hS hl
  have hown : s.vm.findClass "YieldDesk$Basin" = some m.cls := hown
  have hl : lv_has ls 2 [(0, .ref z), (1, .int p0)] := hl
  have hf := h0
  unfold f_Ba_changeCap at hf
  refine lv_aload_n hx hb d_Ba_changeCap_0 rfl (lv_at hl 0 rfl) ?_
  refine lv_iload_n hx hb d_Ba_changeCap_1 rfl (lv_at hl 1 rfl) ?_
  refine va_put (D := G) (ci := 0) (v := .int p0) (ty := .int) (C := "YieldDesk$Basin") (T := F_Ba) (N := 10) hx hb hB fi_Ba ft_Ba fo_Ba fn_Ba hown hE.1 hP hD hS 0 rfl rfl 4 (by decide) (hB _ m_36) (fun _ h9 => h9) rfl (by decide +kernel) rfl rfl (Nat.le_of_ble_eq_true rfl) d_Ba_changeCap_2 (fun H locs hP hD hS => ?_)
  have hP : va_P G classes [(z, .inr (0, [.ref z_inflows_a, .ref z_losses_a, .int z_periods, .int z_draft, .int p0, .int z_time, .int z_volume, .int z_fails, .int z_lacking, .int z_spilt])), (z_inflows_a, .inl (cy 0, 12, .inl z_inflows)), (z_losses_a, .inl (cy 0, 10, .inl z_losses))] H := hP
  have hD : va_D A [(z, .inr (0, [.ref z_inflows_a, .ref z_losses_a, .int z_periods, .int z_draft, .int p0, .int z_time, .int z_volume, .int z_fails, .int z_lacking, .int z_spilt])), (z_inflows_a, .inl (cy 0, 12, .inl z_inflows)), (z_losses_a, .inl (cy 0, 10, .inl z_losses))] := hD
  refine lv_aload_n hx hb d_Ba_changeCap_5 rfl (lv_at hl 0 rfl) ?_
  refine va_get (D := G) (ci := 0) (v := .int z_volume) (C := "YieldDesk$Basin") (T := F_Ba) (N := 10) hx hb hB fi_Ba hown hE.1 hP 0 rfl rfl 6 (by decide) (hB _ m_43) (fun _ h9 => h9) rfl d_Ba_changeCap_6 ?_
  refine lv_iload_n hx hb d_Ba_changeCap_9 rfl (lv_at hl 1 rfl) ?_
  refine lv_icmp_le (tgt := 33) hx hb d_Ba_changeCap_10 (by decide) (fun hc1 => ?_) (fun hc1 => ?_)
  · replace hf := iteP hc1 hf
    obtain rfl := Option.some.inj hf
    exact W.vret hx hb hr (x_ret hP hD hS hBp) hS.2.2 d_Ba_changeCap_33
  · replace hf := iteN hc1 hf
    refine lv_aload_n hx hb d_Ba_changeCap_13 rfl (lv_at hl 0 rfl) ?_
    refine lv_dup hx hb d_Ba_changeCap_14 rfl ?_
    refine va_get (D := G) (ci := 0) (v := .int z_spilt) (C := "YieldDesk$Basin") (T := F_Ba) (N := 10) hx hb hB fi_Ba hown hE.1 hP 0 rfl rfl 9 (by decide) (hB _ m_50) (fun _ h9 => h9) rfl d_Ba_changeCap_15 ?_
    refine lv_aload_n hx hb d_Ba_changeCap_18 rfl (lv_at hl 0 rfl) ?_
    refine va_get (D := G) (ci := 0) (v := .int z_volume) (C := "YieldDesk$Basin") (T := F_Ba) (N := 10) hx hb hB fi_Ba hown hE.1 hP 0 rfl rfl 6 (by decide) (hB _ m_43) (fun _ h9 => h9) rfl d_Ba_changeCap_19 ?_
    refine lv_iload_n hx hb d_Ba_changeCap_22 rfl (lv_at hl 1 rfl) ?_
    refine lv_isub hx hb d_Ba_changeCap_23 ?_
    refine lv_iadd hx hb d_Ba_changeCap_24 ?_
    refine va_put (D := G) (ci := 0) (v := .int (z_spilt + (z_volume - p0))) (ty := .int) (C := "YieldDesk$Basin") (T := F_Ba) (N := 10) hx hb hB fi_Ba ft_Ba fo_Ba fn_Ba hown hE.1 hP hD hS 0 rfl rfl 9 (by decide) (hB _ m_50) (fun _ h9 => h9) rfl (by decide +kernel) rfl rfl (Nat.le_of_ble_eq_true rfl) d_Ba_changeCap_25 (fun H locs hP hD hS => ?_)
    have hP : va_P G classes [(z, .inr (0, [.ref z_inflows_a, .ref z_losses_a, .int z_periods, .int z_draft, .int p0, .int z_time, .int z_volume, .int z_fails, .int z_lacking, .int (z_spilt + (z_volume - p0))])), (z_inflows_a, .inl (cy 0, 12, .inl z_inflows)), (z_losses_a, .inl (cy 0, 10, .inl z_losses))] H := hP
    have hD : va_D A [(z, .inr (0, [.ref z_inflows_a, .ref z_losses_a, .int z_periods, .int z_draft, .int p0, .int z_time, .int z_volume, .int z_fails, .int z_lacking, .int (z_spilt + (z_volume - p0))])), (z_inflows_a, .inl (cy 0, 12, .inl z_inflows)), (z_losses_a, .inl (cy 0, 10, .inl z_losses))] := hD
    refine lv_aload_n hx hb d_Ba_changeCap_28 rfl (lv_at hl 0 rfl) ?_
    refine lv_iload_n hx hb d_Ba_changeCap_29 rfl (lv_at hl 1 rfl) ?_
    refine va_put (D := G) (ci := 0) (v := .int p0) (ty := .int) (C := "YieldDesk$Basin") (T := F_Ba) (N := 10) hx hb hB fi_Ba ft_Ba fo_Ba fn_Ba hown hE.1 hP hD hS 0 rfl rfl 6 (by decide) (hB _ m_43) (fun _ h9 => h9) rfl (by decide +kernel) rfl rfl (Nat.le_of_ble_eq_true rfl) d_Ba_changeCap_30 (fun H locs hP hD hS => ?_)
    have hP : va_P G classes [(z, .inr (0, [.ref z_inflows_a, .ref z_losses_a, .int z_periods, .int z_draft, .int p0, .int z_time, .int p0, .int z_fails, .int z_lacking, .int (z_spilt + (z_volume - p0))])), (z_inflows_a, .inl (cy 0, 12, .inl z_inflows)), (z_losses_a, .inl (cy 0, 10, .inl z_losses))] H := hP
    have hD : va_D A [(z, .inr (0, [.ref z_inflows_a, .ref z_losses_a, .int z_periods, .int z_draft, .int p0, .int z_time, .int p0, .int z_fails, .int z_lacking, .int (z_spilt + (z_volume - p0))])), (z_inflows_a, .inl (cy 0, 12, .inl z_inflows)), (z_losses_a, .inl (cy 0, 10, .inl z_losses))] := hD
    obtain rfl := Option.some.inj hf
    exact W.vret hx hb hr (x_ret hP hD hS hBp) hS.2.2 d_Ba_changeCap_33
set_option maxHeartbeats 4000000 in
set_option maxRecDepth 100000 in
theorem t_Ba_hasNoPlace (l : Launch) (G : va_G) (cy : Nat → ClassId) (kz : Nat → Nat) (N0 : Nat) (z : Nat) (z_periods : Int32) (z_draft : Int32) (z_cap : Int32) (z_time : Int32) (z_volume : Int32) (z_fails : Int32) (z_lacking : Int32) (z_spilt : Int32) (z_inflows_a : Nat) (z_inflows : Nat → Int32) (z_losses_a : Nat) (z_losses : Nat → Int32) (p0 : Int32) (out : Int32) (h0 : f_Ba_hasNoPlace z_periods p0 = some out) (Bp : va_W → Prop) (hBp : Bp [(z, .inr (0, [.ref z_inflows_a, .ref z_losses_a, .int z_periods, .int z_draft, .int z_cap, .int z_time, .int z_volume, .int z_fails, .int z_lacking, .int z_spilt])), (z_inflows_a, .inl (cy 0, 12, .inl z_inflows)), (z_losses_a, .inl (cy 0, 10, .inl z_losses))]) : CT l G cy kz N0 y_Ba_hasNoPlace b_Ba_hasNoPlace 2 (some .boolean) 1 0 0 [.ref z, .int p0] [(z, .inr (0, [.ref z_inflows_a, .ref z_losses_a, .int z_periods, .int z_draft, .int z_cap, .int z_time, .int z_volume, .int z_fails, .int z_lacking, .int z_spilt])), (z_inflows_a, .inl (cy 0, 12, .inl z_inflows)), (z_losses_a, .inl (cy 0, 10, .inl z_losses))] (some (.int out)) Bp := by
  refine CT.of (by decide) (Nat.le_of_ble_eq_true rfl) ?_
  intro p e s m below meth c A ls hx hb hr hml hB hown hlocks hnm hE hN hA hNA hP hD hS hl
  have hown : s.vm.findClass "YieldDesk$Basin" = some m.cls := hown
  have hl : lv_has ls 2 [(0, .ref z), (1, .int p0)] := hl
  have hf := h0
  unfold f_Ba_hasNoPlace at hf
  refine lv_iload_n hx hb d_Ba_hasNoPlace_0 rfl (lv_at hl 1 rfl) ?_
  refine lv_iconst (v := (0 : Int32)) hx hb d_Ba_hasNoPlace_1 (by decide) ?_
  refine lv_aload_n hx hb d_Ba_hasNoPlace_2 rfl (lv_at hl 0 rfl) ?_
  refine va_get (D := G) (ci := 0) (v := .int z_periods) (C := "YieldDesk$Basin") (T := F_Ba) (N := 10) hx hb hB fi_Ba hown hE.1 hP 0 rfl rfl 2 (by decide) (hB _ m_28) (fun _ h9 => h9) rfl d_Ba_hasNoPlace_3 ?_
  refine lv_bipush (v := (12 : Int32)) hx hb d_Ba_hasNoPlace_6 (by decide) ?_
  refine va_mmin hx hb (hml.trans hl.1.symm) hown (hB _ m_359) (hB _ m_271) (hB _ m_10) (hB _ m_272) (Nat.le_of_ble_eq_true rfl) (Nat.le_of_ble_eq_true rfl) (Nat.le_of_ble_eq_true rfl) (Nat.le_of_ble_eq_true rfl) d_Ba_hasNoPlace_8 ?_
  refine lv_iconst (v := (1 : Int32)) hx hb d_Ba_hasNoPlace_11 (by decide) ?_
  refine lv_isub hx hb d_Ba_hasNoPlace_12 ?_
  obtain ⟨z1, hz1, hf⟩ := obn hf
  refine x_SN0 (As := [.int p0, .int (0 : Int32), .int ((if (12 : Int32) < z_periods then (12 : Int32) else z_periods) - (1 : Int32))]) (rest := []) (t_Ye_isOutside l G cy kz N0  p0 (0 : Int32) ((if (12 : Int32) < z_periods then (12 : Int32) else z_periods) - (1 : Int32)) z1 hz1 (fun w => w = []) rfl) hx hb hml hown hB hE hN hNA (List.mem_of_getElem? (i := 9) rfl) m_240 m_1 m_241 hdS_Ye_isOutside ⟨Nat.le_of_ble_eq_true rfl, Nat.le_of_ble_eq_true rfl, Nat.le_of_ble_eq_true rfl, Nat.le_of_ble_eq_true rfl⟩ hP hD hS hA hl.1 rfl (Nat.le_of_ble_eq_true rfl) d_Ba_hasNoPlace_13 (fun H locs hP hD hS => ?_)
  obtain ⟨hg2, hf⟩ := gdn hf
  have hg2n : narrow .boolean (.int z1) = .int z1 := by rcases Decidable.not_not.mp hg2 with q | q <;> rw [q] <;> rfl
  obtain rfl := Option.some.inj hf
  exact W.zret hx hb hr hg2n (x_ret hP hD hS hBp) hS.2.2 d_Ba_hasNoPlace_16
set_option maxHeartbeats 4000000 in
set_option maxRecDepth 100000 in
theorem t_Ba_changeInflow (l : Launch) (G : va_G) (cy : Nat → ClassId) (kz : Nat → Nat) (N0 : Nat) (z : Nat) (z_periods : Int32) (z_draft : Int32) (z_cap : Int32) (z_time : Int32) (z_volume : Int32) (z_fails : Int32) (z_lacking : Int32) (z_spilt : Int32) (z_inflows_a : Nat) (z_inflows : Nat → Int32) (z_losses_a : Nat) (z_losses : Nat → Int32) (p0 : Int32) (p1 : Int32) (out : (Nat → Int32)) (h0 : f_Ba_changeInflow z_periods z_inflows p0 p1 = some out) (Bp : va_W → Prop) (hBp : Bp [(z, .inr (0, [.ref z_inflows_a, .ref z_losses_a, .int z_periods, .int z_draft, .int z_cap, .int z_time, .int z_volume, .int z_fails, .int z_lacking, .int z_spilt])), (z_inflows_a, .inl (cy 0, 12, .inl out)), (z_losses_a, .inl (cy 0, 10, .inl z_losses))]) : CT l G cy kz N0 y_Ba_changeInflow b_Ba_changeInflow 3 none 2 0 0 [.ref z, .int p0, .int p1] [(z, .inr (0, [.ref z_inflows_a, .ref z_losses_a, .int z_periods, .int z_draft, .int z_cap, .int z_time, .int z_volume, .int z_fails, .int z_lacking, .int z_spilt])), (z_inflows_a, .inl (cy 0, 12, .inl z_inflows)), (z_losses_a, .inl (cy 0, 10, .inl z_losses))] none Bp := by
  refine CT.of (by decide) (Nat.le_of_ble_eq_true rfl) ?_
  intro p e s m below meth c A ls hx hb hr hml hB hown hlocks hnm hE hN hA hNA hP hD hS hl
  have hown : s.vm.findClass "YieldDesk$Basin" = some m.cls := hown
  have hl : lv_has ls 3 [(0, .ref z), (1, .int p0), (2, .int p1)] := hl
  have hf := h0
  unfold f_Ba_changeInflow at hf
  refine lv_aload_n hx hb d_Ba_changeInflow_0 rfl (lv_at hl 0 rfl) ?_
  refine lv_iload_n hx hb d_Ba_changeInflow_1 rfl (lv_at hl 1 rfl) ?_
  obtain ⟨z1, hz1, hf⟩ := obn hf
  refine x_V (As := [.int p0]) (rest := []) (wc := [(z, .inr (0, [.ref z_inflows_a, .ref z_losses_a, .int z_periods, .int z_draft, .int z_cap, .int z_time, .int z_volume, .int z_fails, .int z_lacking, .int z_spilt])), (z_inflows_a, .inl (cy 0, 12, .inl z_inflows)), (z_losses_a, .inl (cy 0, 10, .inl z_losses))]) (wr := []) (t_Ba_hasNoPlace l G cy kz N0  z z_periods z_draft z_cap z_time z_volume z_fails z_lacking z_spilt z_inflows_a z_inflows z_losses_a z_losses p0 z1 hz1 (fun w => w = [(z, .inr (0, [.ref z_inflows_a, .ref z_losses_a, .int z_periods, .int z_draft, .int z_cap, .int z_time, .int z_volume, .int z_fails, .int z_lacking, .int z_spilt])), (z_inflows_a, .inl (cy 0, 12, .inl z_inflows)), (z_losses_a, .inl (cy 0, 10, .inl z_losses))]) rfl) hx hb hml hown hB hE hN hNA m_388 m_380 m_381 m_2 m_382 hdV_Ba_hasNoPlace ⟨Nat.le_of_ble_eq_true rfl, Nat.le_of_ble_eq_true rfl, Nat.le_of_ble_eq_true rfl, Nat.le_of_ble_eq_true rfl⟩ hP hD hS hA 0 0 rfl rfl rfl [0, 1, 2] [] rfl rfl (by decide) (by decide) hl.1 rfl (Nat.le_of_ble_eq_true rfl) d_Ba_changeInflow_2 (fun _ H locs hw hP hD hS => ?_)
  subst hw
  replace hP : va_P G classes [(z, .inr (0, [.ref z_inflows_a, .ref z_losses_a, .int z_periods, .int z_draft, .int z_cap, .int z_time, .int z_volume, .int z_fails, .int z_lacking, .int z_spilt])), (z_inflows_a, .inl (cy 0, 12, .inl z_inflows)), (z_losses_a, .inl (cy 0, 10, .inl z_losses))] H := hP.sub [0, 1, 2] rfl
  replace hD : va_D A [(z, .inr (0, [.ref z_inflows_a, .ref z_losses_a, .int z_periods, .int z_draft, .int z_cap, .int z_time, .int z_volume, .int z_fails, .int z_lacking, .int z_spilt])), (z_inflows_a, .inl (cy 0, 12, .inl z_inflows)), (z_losses_a, .inl (cy 0, 10, .inl z_losses))] := hD.sub [0, 1, 2] (by decide) rfl
  refine lv_if_ne (tgt := 15) hx hb d_Ba_changeInflow_5 (by decide) (fun hc2 => ?_) (fun hc2 => ?_)
  · replace hf := iteN hc2 hf
    obtain rfl := Option.some.inj hf
    exact W.vret hx hb hr (x_ret hP hD hS hBp) hS.2.2 d_Ba_changeInflow_15
  · replace hf := iteP hc2 hf
    refine lv_aload_n hx hb d_Ba_changeInflow_8 rfl (lv_at hl 0 rfl) ?_
    refine va_get (D := G) (ci := 0) (v := .ref z_inflows_a) (C := "YieldDesk$Basin") (T := F_Ba) (N := 10) hx hb hB fi_Ba hown hE.1 hP 0 rfl rfl 0 (by decide) (hB _ m_26) (fun _ h9 => h9) rfl d_Ba_changeInflow_9 ?_
    refine lv_iload_n hx hb d_Ba_changeInflow_12 rfl (lv_at hl 1 rfl) ?_
    refine lv_iload_n hx hb d_Ba_changeInflow_13 rfl (lv_at hl 2 rfl) ?_
    obtain ⟨hg3, hf⟩ := gdn hf
    refine va_iast hx hb hE.1 hP hD hS 1 0 rfl rfl hg3 d_Ba_changeInflow_14 (fun H locs hP hD hS => ?_)
    have hP : va_P G classes [(z, .inr (0, [.ref z_inflows_a, .ref z_losses_a, .int z_periods, .int z_draft, .int z_cap, .int z_time, .int z_volume, .int z_fails, .int z_lacking, .int z_spilt])), (z_inflows_a, .inl (cy 0, 12, .inl (upd z_inflows p0.toNatClampNeg p1))), (z_losses_a, .inl (cy 0, 10, .inl z_losses))] H := hP
    have hD : va_D A [(z, .inr (0, [.ref z_inflows_a, .ref z_losses_a, .int z_periods, .int z_draft, .int z_cap, .int z_time, .int z_volume, .int z_fails, .int z_lacking, .int z_spilt])), (z_inflows_a, .inl (cy 0, 12, .inl (upd z_inflows p0.toNatClampNeg p1))), (z_losses_a, .inl (cy 0, 10, .inl z_losses))] := hD
    obtain rfl := Option.some.inj hf
    exact W.vret hx hb hr (x_ret hP hD hS hBp) hS.2.2 d_Ba_changeInflow_15
set_option maxHeartbeats 4000000 in
set_option maxRecDepth 100000 in
theorem t_Ba_total (l : Launch) (G : va_G) (cy : Nat → ClassId) (kz : Nat → Nat) (N0 : Nat) (z : Nat) (z_periods : Int32) (z_draft : Int32) (z_cap : Int32) (z_time : Int32) (z_volume : Int32) (z_fails : Int32) (z_lacking : Int32) (z_spilt : Int32) (z_inflows_a : Nat) (z_inflows : Nat → Int32) (z_losses_a : Nat) (z_losses : Nat → Int32) (out : Int32) (h0 : f_Ba_total z_periods z_inflows = some out) (Bp : va_W → Prop) (hBp : Bp [(z, .inr (0, [.ref z_inflows_a, .ref z_losses_a, .int z_periods, .int z_draft, .int z_cap, .int z_time, .int z_volume, .int z_fails, .int z_lacking, .int z_spilt])), (z_inflows_a, .inl (cy 0, 12, .inl z_inflows)), (z_losses_a, .inl (cy 0, 10, .inl z_losses))]) : CT l G cy kz N0 y_Ba_total b_Ba_total 3 (some .int) 2 0 0 [.ref z] [(z, .inr (0, [.ref z_inflows_a, .ref z_losses_a, .int z_periods, .int z_draft, .int z_cap, .int z_time, .int z_volume, .int z_fails, .int z_lacking, .int z_spilt])), (z_inflows_a, .inl (cy 0, 12, .inl z_inflows)), (z_losses_a, .inl (cy 0, 10, .inl z_losses))] (some (.int out)) Bp := by
  refine CT.of (by decide) (Nat.le_of_ble_eq_true rfl) ?_
  intro p e s m below meth c A ls hx hb hr hml hB hown hlocks hnm hE hN hA hNA hP hD hS hl
  have hown : s.vm.findClass "YieldDesk$Basin" = some m.cls := hown
  have hl : lv_has ls 3 [(0, .ref z)] := hl
  have hf := h0
  unfold f_Ba_total at hf
  refine lv_iconst (v := (0 : Int32)) hx hb d_Ba_total_0 (by decide) ?_
  refine lv_istore_n (lv' := [(1, .int (0 : Int32)), (0, .ref z)]) hx hb d_Ba_total_1 rfl hl (by decide) rfl (fun ls hl => ?_)
  refine lv_iconst (v := (0 : Int32)) hx hb d_Ba_total_2 (by decide) ?_
  refine lv_istore_n (lv' := [(2, .int (0 : Int32)), (1, .int (0 : Int32)), (0, .ref z)]) hx hb d_Ba_total_3 rfl hl (by decide) rfl (fun ls hl => ?_)
  obtain ⟨z4, hz4, hf⟩ := obn hf
  have K1 : ∀ (H : Heap) (locs : List Loc), va_P G classes [(z, .inr (0, [.ref z_inflows_a, .ref z_losses_a, .int z_periods, .int z_draft, .int z_cap, .int z_time, .int z_volume, .int z_fails, .int z_lacking, .int z_spilt])), (z_inflows_a, .inl (cy 0, 12, .inl z_inflows)), (z_losses_a, .inl (cy 0, 10, .inl z_losses))] H → va_D A [(z, .inr (0, [.ref z_inflows_a, .ref z_losses_a, .int z_periods, .int z_draft, .int z_cap, .int z_time, .int z_volume, .int z_fails, .int z_lacking, .int z_spilt])), (z_inflows_a, .inl (cy 0, 12, .inl z_inflows)), (z_losses_a, .inl (cy 0, 10, .inl z_losses))] → va_S A s.heap H locs → ∀ (ls : Array Slot), lv_has ls 3 [(0, .ref z), (1, .int z4.1), (2, .int z4.2)] → W p l e (RM 2 0 0) s m ([.ref z] : List Value).toArray below meth c H locs 0 0 (MQ below (CQ G (some (.int out)) Bp A) ([.ref z] : List Value).toArray s 0 0 A) (F0 m 26 ls []) := by
    intro H locs hP hD hS ls hl
    refine lv_iload_n hx hb d_Ba_total_26 rfl (lv_at hl 1 rfl) ?_
    obtain rfl := Option.some.inj hf
    exact W.iret hx hb hr (x_ret hP hD hS hBp) hS.2.2 d_Ba_total_27
  clear hf
  have L3 : ∀ (n : Nat) (i1_4 : Int32) (i2_4 : Int32), f_Ba_total_L4 z_periods z_inflows n i1_4 i2_4 = some z4 → ∀ (H : Heap) (locs : List Loc), va_P G classes [(z, .inr (0, [.ref z_inflows_a, .ref z_losses_a, .int z_periods, .int z_draft, .int z_cap, .int z_time, .int z_volume, .int z_fails, .int z_lacking, .int z_spilt])), (z_inflows_a, .inl (cy 0, 12, .inl z_inflows)), (z_losses_a, .inl (cy 0, 10, .inl z_losses))] H → va_D A [(z, .inr (0, [.ref z_inflows_a, .ref z_losses_a, .int z_periods, .int z_draft, .int z_cap, .int z_time, .int z_volume, .int z_fails, .int z_lacking, .int z_spilt])), (z_inflows_a, .inl (cy 0, 12, .inl z_inflows)), (z_losses_a, .inl (cy 0, 10, .inl z_losses))] → va_S A s.heap H locs → ∀ (ls : Array Slot), lv_has ls 3 [(0, .ref z), (1, .int i1_4), (2, .int i2_4)] → W p l e (RM 2 0 0) s m ([.ref z] : List Value).toArray below meth c H locs 0 0 (MQ below (CQ G (some (.int out)) Bp A) ([.ref z] : List Value).toArray s 0 0 A) (F0 m 4 ls []) := by
    intro n
    induction n with
    | zero => intro i1_4 i2_4 hf; exact absurd ((f_Ba_total_L4_z z_periods z_inflows i1_4 i2_4).symm.trans hf) (by intro h; cases h)
    | succ n ih =>
      intro i1_4 i2_4 hf H locs hP hD hS ls hl
      replace hf := (f_Ba_total_L4_s z_periods z_inflows n i1_4 i2_4).symm.trans hf
      refine lv_iload_n hx hb d_Ba_total_4 rfl (lv_at hl 2 rfl) ?_
      refine lv_aload_n hx hb d_Ba_total_5 rfl (lv_at hl 0 rfl) ?_
      refine va_get (D := G) (ci := 0) (v := .int z_periods) (C := "YieldDesk$Basin") (T := F_Ba) (N := 10) hx hb hB fi_Ba hown hE.1 hP 0 rfl rfl 2 (by decide) (hB _ m_28) (fun _ h9 => h9) rfl d_Ba_total_6 ?_
      refine lv_icmp_ge (tgt := 26) hx hb d_Ba_total_9 (by decide) (fun hc5 => ?_) (fun hc5 => ?_)
      · replace hf := iteP hc5 hf
        obtain rfl := Option.some.inj hf
        exact K1 _ _ hP hD hS _ (lv_sub hl [0, 1, 2] rfl)
      · replace hf := iteN hc5 hf
        refine lv_iload_n hx hb d_Ba_total_12 rfl (lv_at hl 1 rfl) ?_
        refine lv_aload_n hx hb d_Ba_total_13 rfl (lv_at hl 0 rfl) ?_
        refine lv_iload_n hx hb d_Ba_total_14 rfl (lv_at hl 2 rfl) ?_
        obtain ⟨z6, hz6, hf⟩ := obn hf
        refine x_V (As := [.int i2_4]) (rest := [.int i1_4]) (wc := [(z, .inr (0, [.ref z_inflows_a, .ref z_losses_a, .int z_periods, .int z_draft, .int z_cap, .int z_time, .int z_volume, .int z_fails, .int z_lacking, .int z_spilt])), (z_inflows_a, .inl (cy 0, 12, .inl z_inflows)), (z_losses_a, .inl (cy 0, 10, .inl z_losses))]) (wr := []) (t_Ba_inflowOf l G cy kz N0  z z_periods z_draft z_cap z_time z_volume z_fails z_lacking z_spilt z_inflows_a z_inflows z_losses_a z_losses i2_4 z6 hz6 (fun w => w = [(z, .inr (0, [.ref z_inflows_a, .ref z_losses_a, .int z_periods, .int z_draft, .int z_cap, .int z_time, .int z_volume, .int z_fails, .int z_lacking, .int z_spilt])), (z_inflows_a, .inl (cy 0, 12, .inl z_inflows)), (z_losses_a, .inl (cy 0, 10, .inl z_losses))]) rfl) hx hb hml hown hB hE hN hNA m_344 m_345 m_346 m_2 m_347 hdV_Ba_inflowOf ⟨Nat.le_of_ble_eq_true rfl, Nat.le_of_ble_eq_true rfl, Nat.le_of_ble_eq_true rfl, Nat.le_of_ble_eq_true rfl⟩ hP hD hS hA 0 0 rfl rfl rfl [0, 1, 2] [] rfl rfl (by decide) (by decide) hl.1 rfl (Nat.le_of_ble_eq_true rfl) d_Ba_total_15 (fun _ H locs hw hP hD hS => ?_)
        subst hw
        replace hP : va_P G classes [(z, .inr (0, [.ref z_inflows_a, .ref z_losses_a, .int z_periods, .int z_draft, .int z_cap, .int z_time, .int z_volume, .int z_fails, .int z_lacking, .int z_spilt])), (z_inflows_a, .inl (cy 0, 12, .inl z_inflows)), (z_losses_a, .inl (cy 0, 10, .inl z_losses))] H := hP.sub [0, 1, 2] rfl
        replace hD : va_D A [(z, .inr (0, [.ref z_inflows_a, .ref z_losses_a, .int z_periods, .int z_draft, .int z_cap, .int z_time, .int z_volume, .int z_fails, .int z_lacking, .int z_spilt])), (z_inflows_a, .inl (cy 0, 12, .inl z_inflows)), (z_losses_a, .inl (cy 0, 10, .inl z_losses))] := hD.sub [0, 1, 2] (by decide) rfl
        refine lv_iadd hx hb d_Ba_total_18 ?_
        refine lv_istore_n (lv' := [(1, .int (i1_4 + z6)), (0, .ref z), (2, .int i2_4)]) hx hb d_Ba_total_19 rfl hl (by decide) rfl (fun ls hl => ?_)
        refine lv_iinc (v := (i2_4 + (1 : Int32))) (lv' := [(2, .int (i2_4 + (1 : Int32))), (1, .int (i1_4 + z6)), (0, .ref z)]) hx hb d_Ba_total_20 hl (k := 2) rfl rfl (by decide) rfl (fun ls hl => ?_)
        refine lv_goto (tgt := 4) hx hb d_Ba_total_23 (by decide) ?_
        exact ih (i1_4 + z6) (i2_4 + (1 : Int32)) hf _ _ hP hD hS _ (lv_sub hl [2, 1, 0] rfl)
  exact L3 FU (0 : Int32) (0 : Int32) hz4 _ _ hP hD hS _ (lv_sub hl [2, 1, 0] rfl)
