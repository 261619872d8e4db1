set_option maxHeartbeats 4000000 in
set_option maxRecDepth 100000 in
theorem t_Li_draw (l : Launch) (G : va_G) (cy : Nat → ClassId) (kz : Nat → Nat) (N0 : Nat) (z : Nat) (z_periods : Int32) (z_sums_a : Nat) (z_sums : Nat → Int32) (z_from_a : Nat) (z_from_upper : Int32) (z_from_lower : Int32) (z_upTo_a : Nat) (z_upTo_upper : Int32) (z_upTo_lower : Int32) (o0 : Nat) (o0_periods : Int32) (o0_draft : Int32) (o0_cap : Int32) (o0_time : Int32) (o0_volume : Int32) (o0_fails : Int32) (o0_lacking : Int32) (o0_spilt : Int32) (o0_inflows_a : Nat) (o0_inflows : Nat → Int32) (o0_losses_a : Nat) (o0_losses : Nat → Int32) (out : Int32 × (Nat → Int32)) (h0 : f_Li_draw z_sums o0_periods o0_inflows = some out) (Bp : va_W → Prop) (hBp : Bp [(z, .inr (4, [.ref z_sums_a, .ref z_from_a, .ref z_upTo_a, .int out.1])), (z_sums_a, .inl (cy 0, 13, .inl out.2)), (z_from_a, .inr (1, [.int z_from_upper, .int z_from_lower])), (z_upTo_a, .inr (1, [.int z_upTo_upper, .int z_upTo_lower])), (o0, .inr (0, [.ref o0_inflows_a, .ref o0_losses_a, .int o0_periods, .int o0_draft, .int o0_cap, .int o0_time, .int o0_volume, .int o0_fails, .int o0_lacking, .int o0_spilt])), (o0_inflows_a, .inl (cy 0, 12, .inl o0_inflows)), (o0_losses_a, .inl (cy 0, 10, .inl o0_losses))]) : CT l G cy kz N0 y_Li_draw b_Li_draw 5 none 2 0 0 [.ref z, .ref o0] [(z, .inr (4, [.ref z_sums_a, .ref z_from_a, .ref z_upTo_a, .int z_periods])), (z_sums_a, .inl (cy 0, 13, .inl z_sums)), (z_from_a, .inr (1, [.int z_from_upper, .int z_from_lower])), (z_upTo_a, .inr (1, [.int z_upTo_upper, .int z_upTo_lower])), (o0, .inr (0, [.ref o0_inflows_a, .ref o0_losses_a, .int o0_periods, .int o0_draft, .int o0_cap, .int o0_time, .int o0_volume, .int o0_fails, .int o0_lacking, .int o0_spilt])), (o0_inflows_a, .inl (cy 0, 12, .inl o0_inflows)), (o0_losses_a, .inl (cy 0, 10, .inl o0_losses))] none Bp := by
  refine CT.of (by decide) (Nat.le_of_ble_eq_true rfl) ?_
  intro p e s m below meth c A ls hx hb hr hml hB hown hlocks hnm hE hN hA hNA hP hD hS hl
  have hown : s.vm.findClass "YieldDesk$Lines" = some m.cls := hown
  have hl : lv_has ls 5 [(0, .ref z), (1, .ref o0)] := hl
  have hf := h0
  unfold f_Li_draw at hf
  refine lv_aload_n hx hb d_Li_draw_0 rfl (lv_at hl 0 rfl) ?_
  refine lv_iconst (v := (1 : Int32)) hx hb d_Li_draw_1 (by decide) ?_
  refine lv_aload_n hx hb d_Li_draw_2 rfl (lv_at hl 1 rfl) ?_
  refine va_getN (D := G) (ci := 0) (v := .int o0_periods) (C := "YieldDesk$Basin") (T := F_Ba) (N := 10) hx hb hB fi_Ba hown hE.1 hP 4 rfl rfl 2 (by decide) (va_Nw.use rfl (hE.2.1.1 _ (List.mem_of_getElem? (i := 0) rfl))) (fun _ h9 => h9) rfl d_Li_draw_3 ?_
  refine lv_bipush (v := (12 : Int32)) hx hb d_Li_draw_6 (by decide) ?_
  refine va_mmin hx hb (hml.trans hl.1.symm) hown (hB _ m_414) (hB _ m_271) (hB _ m_10) (hB _ m_272) (Nat.le_of_ble_eq_true rfl) (Nat.le_of_ble_eq_true rfl) (Nat.le_of_ble_eq_true rfl) (Nat.le_of_ble_eq_true rfl) d_Li_draw_8 ?_
  refine va_mmax hx hb (hml.trans hl.1.symm) hown (hB _ m_415) (hB _ m_361) (hB _ m_10) (hB _ m_362) (Nat.le_of_ble_eq_true rfl) (Nat.le_of_ble_eq_true rfl) (Nat.le_of_ble_eq_true rfl) (Nat.le_of_ble_eq_true rfl) d_Li_draw_11 ?_
  refine va_put (D := G) (ci := 4) (v := .int (if (1 : Int32) < (if (12 : Int32) < o0_periods then (12 : Int32) else o0_periods) then (if (12 : Int32) < o0_periods then (12 : Int32) else o0_periods) else (1 : Int32))) (ty := .int) (C := "YieldDesk$Lines") (T := F_Li) (N := 4) hx hb hB fi_Li ft_Li fo_Li fn_Li hown hE.1 hP hD hS 0 rfl rfl 3 (by decide) (hB _ m_144) (fun _ h9 => h9) rfl (by decide +kernel) rfl rfl (Nat.le_of_ble_eq_true rfl) d_Li_draw_14 (fun H locs hP hD hS => ?_)
  have hP : va_P G classes [(z, .inr (4, [.ref z_sums_a, .ref z_from_a, .ref z_upTo_a, .int (if (1 : Int32) < (if (12 : Int32) < o0_periods then (12 : Int32) else o0_periods) then (if (12 : Int32) < o0_periods then (12 : Int32) else o0_periods) else (1 : Int32))])), (z_sums_a, .inl (cy 0, 13, .inl z_sums)), (z_from_a, .inr (1, [.int z_from_upper, .int z_from_lower])), (z_upTo_a, .inr (1, [.int z_upTo_upper, .int z_upTo_lower])), (o0, .inr (0, [.ref o0_inflows_a, .ref o0_losses_a, .int o0_periods, .int o0_draft, .int o0_cap, .int o0_time, .int o0_volume, .int o0_fails, .int o0_lacking, .int o0_spilt])), (o0_inflows_a, .inl (cy 0, 12, .inl o0_inflows)), (o0_losses_a, .inl (cy 0, 10, .inl o0_losses))] H := hP
  have hD : va_D A [(z, .inr (4, [.ref z_sums_a, .ref z_from_a, .ref z_upTo_a, .int (if (1 : Int32) < (if (12 : Int32) < o0_periods then (12 : Int32) else o0_periods) then (if (12 : Int32) < o0_periods then (12 : Int32) else o0_periods) else (1 : Int32))])), (z_sums_a, .inl (cy 0, 13, .inl z_sums)), (z_from_a, .inr (1, [.int z_from_upper, .int z_from_lower])), (z_upTo_a, .inr (1, [.int z_upTo_upper, .int z_upTo_lower])), (o0, .inr (0, [.ref o0_inflows_a, .ref o0_losses_a, .int o0_periods, .int o0_draft, .int o0_cap, .int o0_time, .int o0_volume, .int o0_fails, .int o0_lacking, .int o0_spilt])), (o0_inflows_a, .inl (cy 0, 12, .inl o0_inflows)), (o0_losses_a, .inl (cy 0, 10, .inl o0_losses))] := hD
  refine lv_iconst (v := (0 : Int32)) hx hb d_Li_draw_17 (by decide) ?_
  refine lv_istore_n (lv' := [(2, .int (0 : Int32)), (0, .ref z), (1, .ref o0)]) hx hb d_Li_draw_18 rfl hl (by decide) rfl (fun ls hl => ?_)
  obtain ⟨z4, hz4, hf⟩ := obn hf
  have K1 : ∀ (H : Heap) (locs : List Loc), va_P G classes [(z, .inr (4, [.ref z_sums_a, .ref z_from_a, .ref z_upTo_a, .int (if (1 : Int32) < (if (12 : Int32) < o0_periods then (12 : Int32) else o0_periods) then (if (12 : Int32) < o0_periods then (12 : Int32) else o0_periods) else (1 : Int32))])), (z_sums_a, .inl (cy 0, 13, .inl z4.2)), (z_from_a, .inr (1, [.int z_from_upper, .int z_from_lower])), (z_upTo_a, .inr (1, [.int z_upTo_upper, .int z_upTo_lower])), (o0, .inr (0, [.ref o0_inflows_a, .ref o0_losses_a, .int o0_periods, .int o0_draft, .int o0_cap, .int o0_time, .int o0_volume, .int o0_fails, .int o0_lacking, .int o0_spilt])), (o0_inflows_a, .inl (cy 0, 12, .inl o0_inflows)), (o0_losses_a, .inl (cy 0, 10, .inl o0_losses))] H → va_D A [(z, .inr (4, [.ref z_sums_a, .ref z_from_a, .ref z_upTo_a, .int (if (1 : Int32) < (if (12 : Int32) < o0_periods then (12 : Int32) else o0_periods) then (if (12 : Int32) < o0_periods then (12 : Int32) else o0_periods) else (1 : Int32))])), (z_sums_a, .inl (cy 0, 13, .inl z4.2)), (z_from_a, .inr (1, [.int z_from_upper, .int z_from_lower])), (z_upTo_a, .inr (1, [.int z_upTo_upper, .int z_upTo_lower])), (o0, .inr (0, [.ref o0_inflows_a, .ref o0_losses_a, .int o0_periods, .int o0_draft, .int o0_cap, .int o0_time, .int o0_volume, .int o0_fails, .int o0_lacking, .int o0_spilt])), (o0_inflows_a, .inl (cy 0, 12, .inl o0_inflows)), (o0_losses_a, .inl (cy 0, 10, .inl o0_losses))] → va_S A s.heap H locs → ∀ (ls : Array Slot), lv_has ls 5 [(0, .ref z), (1, .ref o0), (2, .int z4.1)] → W p l e (RM 2 0 0) s m ([.ref z, .ref o0] : List Value).toArray below meth c H locs 0 0 (MQ below (CQ G none Bp A) ([.ref z, .ref o0] : List Value).toArray s 0 0 A) (F0 m 92 ls []) := by
    intro H locs hP hD hS ls hl
    obtain rfl := Option.some.inj hf
    exact W.vret hx hb hr (x_ret hP hD hS hBp) hS.2.2 d_Li_draw_92
  clear hf
  have L3 : ∀ (n : Nat) (i2_19 : Int32) (z_sums_19 : Nat → Int32), f_Li_draw_L19 o0_periods o0_inflows n i2_19 z_sums_19 = some z4 → ∀ (H : Heap) (locs : List Loc), va_P G classes [(z, .inr (4, [.ref z_sums_a, .ref z_from_a, .ref z_upTo_a, .int (if (1 : Int32) < (if (12 : Int32) < o0_periods then (12 : Int32) else o0_periods) then (if (12 : Int32) < o0_periods then (12 : Int32) else o0_periods) else (1 : Int32))])), (z_sums_a, .inl (cy 0, 13, .inl z_sums_19)), (z_from_a, .inr (1, [.int z_from_upper, .int z_from_lower])), (z_upTo_a, .inr (1, [.int z_upTo_upper, .int z_upTo_lower])), (o0, .inr (0, [.ref o0_inflows_a, .ref o0_losses_a, .int o0_periods, .int o0_draft, .int o0_cap, .int o0_time, .int o0_volume, .int o0_fails, .int o0_lacking, .int o0_spilt])), (o0_inflows_a, .inl (cy 0, 12, .inl o0_inflows)), (o0_losses_a, .inl (cy 0, 10, .inl o0_losses))] H → va_D A [(z, .inr (4, [.ref z_sums_a, .ref z_from_a, .ref z_upTo_a, .int (if (1 : Int32) < (if (12 : Int32) < o0_periods then (12 : Int32) else o0_periods) then (if (12 : Int32) < o0_periods then (12 : Int32) else o0_periods) else (1 : Int32))])), (z_sums_a, .inl (cy 0, 13, .inl z_sums_19)), (z_from_a, .inr (1, [.int z_from_upper, .int z_from_lower])), (z_upTo_a, .inr (1, [.int z_upTo_upper, .int z_upTo_lower])), (o0, .inr (0, [.ref o0_inflows_a, .ref o0_losses_a, .int o0_periods, .int o0_draft, .int o0_cap, .int o0_time, .int o0_volume, .int o0_fails, .int o0_lacking, .int o0_spilt])), (o0_inflows_a, .inl (cy 0, 12, .inl o0_inflows)), (o0_losses_a, .inl (cy 0, 10, .inl o0_losses))] → va_S A s.heap H locs → ∀ (ls : Array Slot), lv_has ls 5 [(0, .ref z), (1, .ref o0), (2, .int i2_19)] → W p l e (RM 2 0 0) s m ([.ref z, .ref o0] : List Value).toArray below meth c H locs 0 0 (MQ below (CQ G none Bp A) ([.ref z, .ref o0] : List Value).toArray s 0 0 A) (F0 m 19 ls []) := by
    intro n
    induction n with
    | zero => intro i2_19 z_sums_19 hf; exact absurd ((f_Li_draw_L19_z o0_periods o0_inflows i2_19 z_sums_19).symm.trans hf) (by intro h; cases h)
    | succ n ih =>
      intro i2_19 z_sums_19 hf H locs hP hD hS ls hl
      replace hf := (f_Li_draw_L19_s o0_periods o0_inflows n i2_19 z_sums_19).symm.trans hf
      refine lv_iload_n hx hb d_Li_draw_19 rfl (lv_at hl 2 rfl) ?_
      refine lv_aload_n hx hb d_Li_draw_20 rfl (lv_at hl 0 rfl) ?_
      refine va_get (D := G) (ci := 4) (v := .int (if (1 : Int32) < (if (12 : Int32) < o0_periods then (12 : Int32) else o0_periods) then (if (12 : Int32) < o0_periods then (12 : Int32) else o0_periods) else (1 : Int32))) (C := "YieldDesk$Lines") (T := F_Li) (N := 4) hx hb hB fi_Li hown hE.1 hP 0 rfl rfl 3 (by decide) (hB _ m_144) (fun _ h9 => h9) rfl d_Li_draw_21 ?_
      refine lv_icmp_ge (tgt := 92) hx hb d_Li_draw_24 (by decide) (fun hc5 => ?_) (fun hc5 => ?_)
      · replace hf := iteP hc5 hf
        obtain rfl := Option.some.inj hf
        exact K1 _ _ hP hD hS _ (lv_sub hl [0, 1, 2] rfl)
      · replace hf := iteN hc5 hf
        refine lv_iconst (v := (0 : Int32)) hx hb d_Li_draw_27 (by decide) ?_
        refine lv_istore_n (lv' := [(3, .int (0 : Int32)), (0, .ref z), (1, .ref o0), (2, .int i2_19)]) hx hb d_Li_draw_28 rfl hl (by decide) rfl (fun ls hl => ?_)
        refine lv_iconst (v := (1 : Int32)) hx hb d_Li_draw_29 (by decide) ?_
        refine lv_istore (lv' := [(4, .int (1 : Int32)), (3, .int (0 : Int32)), (0, .ref z), (1, .ref o0), (2, .int i2_19)]) hx hb d_Li_draw_30 hl (by decide) rfl (fun ls hl => ?_)
        obtain ⟨z9, hz9, hf⟩ := obn hf
        have K6 : ∀ (H : Heap) (locs : List Loc), va_P G classes [(z, .inr (4, [.ref z_sums_a, .ref z_from_a, .ref z_upTo_a, .int (if (1 : Int32) < (if (12 : Int32) < o0_periods then (12 : Int32) else o0_periods) then (if (12 : Int32) < o0_periods then (12 : Int32) else o0_periods) else (1 : Int32))])), (z_sums_a, .inl (cy 0, 13, .inl z9.2.2)), (z_from_a, .inr (1, [.int z_from_upper, .int z_from_lower])), (z_upTo_a, .inr (1, [.int z_upTo_upper, .int z_upTo_lower])), (o0, .inr (0, [.ref o0_inflows_a, .ref o0_losses_a, .int o0_periods, .int o0_draft, .int o0_cap, .int o0_time, .int o0_volume, .int o0_fails, .int o0_lacking, .int o0_spilt])), (o0_inflows_a, .inl (cy 0, 12, .inl o0_inflows)), (o0_losses_a, .inl (cy 0, 10, .inl o0_losses))] H → va_D A [(z, .inr (4, [.ref z_sums_a, .ref z_from_a, .ref z_upTo_a, .int (if (1 : Int32) < (if (12 : Int32) < o0_periods then (12 : Int32) else o0_periods) then (if (12 : Int32) < o0_periods then (12 : Int32) else o0_periods) else (1 : Int32))])), (z_sums_a, .inl (cy 0, 13, .inl z9.2.2)), (z_from_a, .inr (1, [.int z_from_upper, .int z_from_lower])), (z_upTo_a, .inr (1, [.int z_upTo_upper, .int z_upTo_lower])), (o0, .inr (0, [.ref o0_inflows_a, .ref o0_losses_a, .int o0_periods, .int o0_draft, .int o0_cap, .int o0_time, .int o0_volume, .int o0_fails, .int o0_lacking, .int o0_spilt])), (o0_inflows_a, .inl (cy 0, 12, .inl o0_inflows)), (o0_losses_a, .inl (cy 0, 10, .inl o0_losses))] → va_S A s.heap H locs → ∀ (ls : Array Slot), lv_has ls 5 [(0, .ref z), (1, .ref o0), (2, .int i2_19), (3, .int z9.1), (4, .int z9.2.1)] → W p l e (RM 2 0 0) s m ([.ref z, .ref o0] : List Value).toArray below meth c H locs 0 0 (MQ below (CQ G none Bp A) ([.ref z, .ref o0] : List Value).toArray s 0 0 A) (F0 m 86 ls []) := by
          intro H locs hP hD hS ls hl
          refine lv_iinc (v := (i2_19 + (1 : Int32))) (lv' := [(2, .int (i2_19 + (1 : Int32))), (0, .ref z), (1, .ref o0), (3, .int z9.1), (4, .int z9.2.1)]) hx hb d_Li_draw_86 hl (k := 2) rfl rfl (by decide) rfl (fun ls hl => ?_)
          refine lv_goto (tgt := 19) hx hb d_Li_draw_89 (by decide) ?_
          exact ih (i2_19 + (1 : Int32)) z9.2.2 hf _ _ hP hD hS _ (lv_sub hl [1, 2, 0] rfl)
        clear hf
        have L8 : ∀ (n : Nat) (i3_32 : Int32) (i4_32 : Int32) (z_sums_32 : Nat → Int32), f_Li_draw_L32 o0_periods o0_inflows i2_19 n i3_32 i4_32 z_sums_32 = some z9 → ∀ (H : Heap) (locs : List Loc), va_P G classes [(z, .inr (4, [.ref z_sums_a, .ref z_from_a, .ref z_upTo_a, .int (if (1 : Int32) < (if (12 : Int32) < o0_periods then (12 : Int32) else o0_periods) then (if (12 : Int32) < o0_periods then (12 : Int32) else o0_periods) else (1 : Int32))])), (z_sums_a, .inl (cy 0, 13, .inl z_sums_32)), (z_from_a, .inr (1, [.int z_from_upper, .int z_from_lower])), (z_upTo_a, .inr (1, [.int z_upTo_upper, .int z_upTo_lower])), (o0, .inr (0, [.ref o0_inflows_a, .ref o0_losses_a, .int o0_periods, .int o0_draft, .int o0_cap, .int o0_time, .int o0_volume, .int o0_fails, .int o0_lacking, .int o0_spilt])), (o0_inflows_a, .inl (cy 0, 12, .inl o0_inflows)), (o0_losses_a, .inl (cy 0, 10, .inl o0_losses))] H → va_D A [(z, .inr (4, [.ref z_sums_a, .ref z_from_a, .ref z_upTo_a, .int (if (1 : Int32) < (if (12 : Int32) < o0_periods then (12 : Int32) else o0_periods) then (if (12 : Int32) < o0_periods then (12 : Int32) else o0_periods) else (1 : Int32))])), (z_sums_a, .inl (cy 0, 13, .inl z_sums_32)), (z_from_a, .inr (1, [.int z_from_upper, .int z_from_lower])), (z_upTo_a, .inr (1, [.int z_upTo_upper, .int z_upTo_lower])), (o0, .inr (0, [.ref o0_inflows_a, .ref o0_losses_a, .int o0_periods, .int o0_draft, .int o0_cap, .int o0_time, .int o0_volume, .int o0_fails, .int o0_lacking, .int o0_spilt])), (o0_inflows_a, .inl (cy 0, 12, .inl o0_inflows)), (o0_losses_a, .inl (cy 0, 10, .inl o0_losses))] → va_S A s.heap H locs → ∀ (ls : Array Slot), lv_has ls 5 [(0, .ref z), (1, .ref o0), (2, .int i2_19), (3, .int i3_32), (4, .int i4_32)] → W p l e (RM 2 0 0) s m ([.ref z, .ref o0] : List Value).toArray below meth c H locs 0 0 (MQ below (CQ G none Bp A) ([.ref z, .ref o0] : List Value).toArray s 0 0 A) (F0 m 32 ls []) := by
          intro n
          induction n with
          | zero => intro i3_32 i4_32 z_sums_32 hf; exact absurd ((f_Li_draw_L32_z o0_periods o0_inflows i2_19 i3_32 i4_32 z_sums_32).symm.trans hf) (by intro h; cases h)
          | succ n ih =>
            intro i3_32 i4_32 z_sums_32 hf H locs hP hD hS ls hl
            replace hf := (f_Li_draw_L32_s o0_periods o0_inflows i2_19 n i3_32 i4_32 z_sums_32).symm.trans hf
            refine lv_iload hx hb d_Li_draw_32 (lv_at hl 4 rfl) ?_
            refine lv_aload_n hx hb d_Li_draw_34 rfl (lv_at hl 0 rfl) ?_
            refine va_get (D := G) (ci := 4) (v := .int (if (1 : Int32) < (if (12 : Int32) < o0_periods then (12 : Int32) else o0_periods) then (if (12 : Int32) < o0_periods then (12 : Int32) else o0_periods) else (1 : Int32))) (C := "YieldDesk$Lines") (T := F_Li) (N := 4) hx hb hB fi_Li hown hE.1 hP 0 rfl rfl 3 (by decide) (hB _ m_144) (fun _ h9 => h9) rfl d_Li_draw_35 ?_
            refine lv_icmp_gt (tgt := 86) hx hb d_Li_draw_38 (by decide) (fun hc10 => ?_) (fun hc10 => ?_)
            · replace hf := iteP hc10 hf
              obtain rfl := Option.some.inj hf
              exact K6 _ _ hP hD hS _ (lv_sub hl [0, 1, 2, 3, 4] rfl)
            · replace hf := iteN hc10 hf
              refine lv_iload_n hx hb d_Li_draw_41 rfl (lv_at hl 3 rfl) ?_
              refine lv_aload_n hx hb d_Li_draw_42 rfl (lv_at hl 1 rfl) ?_
              refine lv_iload_n hx hb d_Li_draw_43 rfl (lv_at hl 2 rfl) ?_
              refine lv_iload hx hb d_Li_draw_44 (lv_at hl 4 rfl) ?_
              refine lv_iadd hx hb d_Li_draw_46 ?_
              refine lv_iconst (v := (1 : Int32)) hx hb d_Li_draw_47 (by decide) ?_
              refine lv_isub hx hb d_Li_draw_48 ?_
              obtain ⟨z11, hz11, hf⟩ := obn hf
              refine x_V (As := [.int ((i2_19 + i4_32) - (1 : Int32))]) (rest := [.int i3_32]) (wc := [(o0, .inr (0, [.ref o0_inflows_a, .ref o0_losses_a, .int o0_periods, .int o0_draft, .int o0_cap, .int o0_time, .int o0_volume, .int o0_fails, .int o0_lacking, .int o0_spilt])), (o0_inflows_a, .inl (cy 0, 12, .inl o0_inflows)), (o0_losses_a, .inl (cy 0, 10, .inl o0_losses))]) (wr := [(z, .inr (4, [.ref z_sums_a, .ref z_from_a, .ref z_upTo_a, .int (if (1 : Int32) < (if (12 : Int32) < o0_periods then (12 : Int32) else o0_periods) then (if (12 : Int32) < o0_periods then (12 : Int32) else o0_periods) else (1 : Int32))])), (z_sums_a, .inl (cy 0, 13, .inl z_sums_32)), (z_from_a, .inr (1, [.int z_from_upper, .int z_from_lower])), (z_upTo_a, .inr (1, [.int z_upTo_upper, .int z_upTo_lower]))]) (t_Ba_inflowOf l G cy kz N0  o0 o0_periods o0_draft o0_cap o0_time o0_volume o0_fails o0_lacking o0_spilt o0_inflows_a o0_inflows o0_losses_a o0_losses ((i2_19 + i4_32) - (1 : Int32)) z11 hz11 (fun w => w = [(o0, .inr (0, [.ref o0_inflows_a, .ref o0_losses_a, .int o0_periods, .int o0_draft, .int o0_cap, .int o0_time, .int o0_volume, .int o0_fails, .int o0_lacking, .int o0_spilt])), (o0_inflows_a, .inl (cy 0, 12, .inl o0_inflows)), (o0_losses_a, .inl (cy 0, 10, .inl o0_losses))]) rfl) hx hb hml hown hB hE hN hNA m_416 m_345 m_346 m_2 m_347 hdV_Ba_inflowOf ⟨Nat.le_of_ble_eq_true rfl, Nat.le_of_ble_eq_true rfl, Nat.le_of_ble_eq_true rfl, Nat.le_of_ble_eq_true rfl⟩ hP hD hS hA 4 0 rfl rfl rfl [4, 5, 6] [0, 1, 2, 3] rfl rfl (by decide) (by decide) hl.1 rfl (Nat.le_of_ble_eq_true rfl) d_Li_draw_49 (fun _ H locs hw hP hD hS => ?_)
              subst hw
              replace hP : va_P G classes [(z, .inr (4, [.ref z_sums_a, .ref z_from_a, .ref z_upTo_a, .int (if (1 : Int32) < (if (12 : Int32) < o0_periods then (12 : Int32) else o0_periods) then (if (12 : Int32) < o0_periods then (12 : Int32) else o0_periods) else (1 : Int32))])), (z_sums_a, .inl (cy 0, 13, .inl z_sums_32)), (z_from_a, .inr (1, [.int z_from_upper, .int z_from_lower])), (z_upTo_a, .inr (1, [.int z_upTo_upper, .int z_upTo_lower])), (o0, .inr (0, [.ref o0_inflows_a, .ref o0_losses_a, .int o0_periods, .int o0_draft, .int o0_cap, .int o0_time, .int o0_volume, .int o0_fails, .int o0_lacking, .int o0_spilt])), (o0_inflows_a, .inl (cy 0, 12, .inl o0_inflows)), (o0_losses_a, .inl (cy 0, 10, .inl o0_losses))] H := hP.sub [0, 1, 2, 3, 4, 5, 6] rfl
              replace hD : va_D A [(z, .inr (4, [.ref z_sums_a, .ref z_from_a, .ref z_upTo_a, .int (if (1 : Int32) < (if (12 : Int32) < o0_periods then (12 : Int32) else o0_periods) then (if (12 : Int32) < o0_periods then (12 : Int32) else o0_periods) else (1 : Int32))])), (z_sums_a, .inl (cy 0, 13, .inl z_sums_32)), (z_from_a, .inr (1, [.int z_from_upper, .int z_from_lower])), (z_upTo_a, .inr (1, [.int z_upTo_upper, .int z_upTo_lower])), (o0, .inr (0, [.ref o0_inflows_a, .ref o0_losses_a, .int o0_periods, .int o0_draft, .int o0_cap, .int o0_time, .int o0_volume, .int o0_fails, .int o0_lacking, .int o0_spilt])), (o0_inflows_a, .inl (cy 0, 12, .inl o0_inflows)), (o0_losses_a, .inl (cy 0, 10, .inl o0_losses))] := hD.sub [0, 1, 2, 3, 4, 5, 6] (by decide) rfl
              refine lv_iadd hx hb d_Li_draw_52 ?_
              refine lv_istore_n (lv' := [(3, .int (i3_32 + z11)), (0, .ref z), (1, .ref o0), (2, .int i2_19), (4, .int i4_32)]) hx hb d_Li_draw_53 rfl hl (by decide) rfl (fun ls hl => ?_)
              refine lv_aload_n hx hb d_Li_draw_54 rfl (lv_at hl 1 rfl) ?_
              refine va_get (D := G) (ci := 4) (v := .ref z_sums_a) (C := "YieldDesk$Lines") (T := F_Li) (N := 4) hx hb hB fi_Li hown hE.1 hP 0 rfl rfl 0 (by decide) (hB _ m_139) (fun _ h9 => h9) rfl d_Li_draw_55 ?_
              refine lv_iload hx hb d_Li_draw_58 (lv_at hl 4 rfl) ?_
              refine lv_iload_n hx hb d_Li_draw_60 rfl (lv_at hl 3 rfl) ?_
              refine lv_if_ne (tgt := 68) hx hb d_Li_draw_61 (by decide) (fun hc12 => ?_) (fun hc12 => ?_)
              · replace hf := iteN hc12 hf
                refine lv_iload_n hx hb d_Li_draw_68 rfl (lv_at hl 0 rfl) ?_
                refine lv_aload_n hx hb d_Li_draw_69 rfl (lv_at hl 1 rfl) ?_
                refine va_get (D := G) (ci := 4) (v := .ref z_sums_a) (C := "YieldDesk$Lines") (T := F_Li) (N := 4) hx hb hB fi_Li hown hE.1 hP 0 rfl rfl 0 (by decide) (hB _ m_139) (fun _ h9 => h9) rfl d_Li_draw_70 ?_
                refine lv_iload hx hb d_Li_draw_73 (lv_at hl 4 rfl) ?_
                obtain ⟨hg13, hf⟩ := gdn hf
                refine va_iald hx hb hE.1 hP 1 0 rfl rfl hg13 d_Li_draw_75 ?_
                refine va_mmin hx hb (hml.trans hl.1.symm) hown (hB _ m_414) (hB _ m_271) (hB _ m_10) (hB _ m_272) (Nat.le_of_ble_eq_true rfl) (Nat.le_of_ble_eq_true rfl) (Nat.le_of_ble_eq_true rfl) (Nat.le_of_ble_eq_true rfl) d_Li_draw_76 ?_
                refine va_iast hx hb hE.1 hP hD hS 1 0 rfl rfl hg13 d_Li_draw_79 (fun H locs hP hD hS => ?_)
                have hP : va_P G classes [(z, .inr (4, [.ref z_sums_a, .ref z_from_a, .ref z_upTo_a, .int (if (1 : Int32) < (if (12 : Int32) < o0_periods then (12 : Int32) else o0_periods) then (if (12 : Int32) < o0_periods then (12 : Int32) else o0_periods) else (1 : Int32))])), (z_sums_a, .inl (cy 0, 13, .inl (upd z_sums_32 i4_32.toNatClampNeg (if (z_sums_32 i4_32.toNatClampNeg) < (i3_32 + z11) then (z_sums_32 i4_32.toNatClampNeg) else (i3_32 + z11))))), (z_from_a, .inr (1, [.int z_from_upper, .int z_from_lower])), (z_upTo_a, .inr (1, [.int z_upTo_upper, .int z_upTo_lower])), (o0, .inr (0, [.ref o0_inflows_a, .ref o0_losses_a, .int o0_periods, .int o0_draft, .int o0_cap, .int o0_time, .int o0_volume, .int o0_fails, .int o0_lacking, .int o0_spilt])), (o0_inflows_a, .inl (cy 0, 12, .inl o0_inflows)), (o0_losses_a, .inl (cy 0, 10, .inl o0_losses))] H := hP
                have hD : va_D A [(z, .inr (4, [.ref z_sums_a, .ref z_from_a, .ref z_upTo_a, .int (if (1 : Int32) < (if (12 : Int32) < o0_periods then (12 : Int32) else o0_periods) then (if (12 : Int32) < o0_periods then (12 : Int32) else o0_periods) else (1 : Int32))])), (z_sums_a, .inl (cy 0, 13, .inl (upd z_sums_32 i4_32.toNatClampNeg (if (z_sums_32 i4_32.toNatClampNeg) < (i3_32 + z11) then (z_sums_32 i4_32.toNatClampNeg) else (i3_32 + z11))))), (z_from_a, .inr (1, [.int z_from_upper, .int z_from_lower])), (z_upTo_a, .inr (1, [.int z_upTo_upper, .int z_upTo_lower])), (o0, .inr (0, [.ref o0_inflows_a, .ref o0_losses_a, .int o0_periods, .int o0_draft, .int o0_cap, .int o0_time, .int o0_volume, .int o0_fails, .int o0_lacking, .int o0_spilt])), (o0_inflows_a, .inl (cy 0, 12, .inl o0_inflows)), (o0_losses_a, .inl (cy 0, 10, .inl o0_losses))] := hD
                refine lv_iinc (v := (i4_32 + (1 : Int32))) (lv' := [(4, .int (i4_32 + (1 : Int32))), (3, .int (i3_32 + z11)), (0, .ref z), (1, .ref o0), (2, .int i2_19)]) hx hb d_Li_draw_80 hl (k := 4) rfl rfl (by decide) rfl (fun ls hl => ?_)
                refine lv_goto (tgt := 32) hx hb d_Li_draw_83 (by decide) ?_
                exact ih (i3_32 + z11) (i4_32 + (1 : Int32)) (upd z_sums_32 i4_32.toNatClampNeg (if (z_sums_32 i4_32.toNatClampNeg) < (i3_32 + z11) then (z_sums_32 i4_32.toNatClampNeg) else (i3_32 + z11))) hf _ _ hP hD hS _ (lv_sub hl [2, 3, 4, 1, 0] rfl)
              · replace hf := iteP hc12 hf
                refine lv_iload_n hx hb d_Li_draw_64 rfl (lv_at hl 0 rfl) ?_
                refine lv_goto (tgt := 79) hx hb d_Li_draw_65 (by decide) ?_
                obtain ⟨hg14, hf⟩ := gdn hf
                refine va_iast hx hb hE.1 hP hD hS 1 0 rfl rfl hg14 d_Li_draw_79 (fun H locs hP hD hS => ?_)
                have hP : va_P G classes [(z, .inr (4, [.ref z_sums_a, .ref z_from_a, .ref z_upTo_a, .int (if (1 : Int32) < (if (12 : Int32) < o0_periods then (12 : Int32) else o0_periods) then (if (12 : Int32) < o0_periods then (12 : Int32) else o0_periods) else (1 : Int32))])), (z_sums_a, .inl (cy 0, 13, .inl (upd z_sums_32 i4_32.toNatClampNeg (i3_32 + z11)))), (z_from_a, .inr (1, [.int z_from_upper, .int z_from_lower])), (z_upTo_a, .inr (1, [.int z_upTo_upper, .int z_upTo_lower])), (o0, .inr (0, [.ref o0_inflows_a, .ref o0_losses_a, .int o0_periods, .int o0_draft, .int o0_cap, .int o0_time, .int o0_volume, .int o0_fails, .int o0_lacking, .int o0_spilt])), (o0_inflows_a, .inl (cy 0, 12, .inl o0_inflows)), (o0_losses_a, .inl (cy 0, 10, .inl o0_losses))] H := hP
                have hD : va_D A [(z, .inr (4, [.ref z_sums_a, .ref z_from_a, .ref z_upTo_a, .int (if (1 : Int32) < (if (12 : Int32) < o0_periods then (12 : Int32) else o0_periods) then (if (12 : Int32) < o0_periods then (12 : Int32) else o0_periods) else (1 : Int32))])), (z_sums_a, .inl (cy 0, 13, .inl (upd z_sums_32 i4_32.toNatClampNeg (i3_32 + z11)))), (z_from_a, .inr (1, [.int z_from_upper, .int z_from_lower])), (z_upTo_a, .inr (1, [.int z_upTo_upper, .int z_upTo_lower])), (o0, .inr (0, [.ref o0_inflows_a, .ref o0_losses_a, .int o0_periods, .int o0_draft, .int o0_cap, .int o0_time, .int o0_volume, .int o0_fails, .int o0_lacking, .int o0_spilt])), (o0_inflows_a, .inl (cy 0, 12, .inl o0_inflows)), (o0_losses_a, .inl (cy 0, 10, .inl o0_losses))] := hD
                refine lv_iinc (v := (i4_32 + (1 : Int32))) (lv' := [(4, .int (i4_32 + (1 : Int32))), (3, .int (i3_32 + z11)), (0, .ref z), (1, .ref o0), (2, .int i2_19)]) hx hb d_Li_draw_80 hl (k := 4) rfl rfl (by decide) rfl (fun ls hl => ?_)
                refine lv_goto (tgt := 32) hx hb d_Li_draw_83 (by decide) ?_
                exact ih (i3_32 + z11) (i4_32 + (1 : Int32)) (upd z_sums_32 i4_32.toNatClampNeg (i3_32 + z11)) hf _ _ hP hD hS _ (lv_sub hl [2, 3, 4, 1, 0] rfl)
        exact L8 FU (0 : Int32) (1 : Int32) z_sums_19 hz9 _ _ hP hD hS _ (lv_sub hl [2, 3, 4, 1, 0] rfl)
  exact L3 FU (0 : Int32) z_sums hz4 _ _ hP hD hS _ (lv_sub hl [1, 2, 0] rfl)
set_option maxHeartbeats 4000000 in
set_option maxRecDepth 100000 in
theorem t_Li_leastSum (l : Launch) (G : va_G) (cy : Nat → ClassId) (kz : Nat → Nat) (N0 : Nat) (z : Nat) (z_periods : Int32) (z_sums_a : Nat) (z_sums : Nat → Int32) (z_from_a : Nat) (z_from_upper : Int32) (z_from_lower : Int32) (z_upTo_a : Nat) (z_upTo_upper : Int32) (z_upTo_lower : Int32) (p0 : Int32) (out : Int32) (h0 : f_Li_leastSum z_sums p0 = some out) (Bp : va_W → Prop) (hBp : Bp [(z, .inr (4, [.ref z_sums_a, .ref z_from_a, .ref z_upTo_a, .int z_periods])), (z_sums_a, .inl (cy 0, 13, .inl z_sums)), (z_from_a, .inr (1, [.int z_from_upper, .int z_from_lower])), (z_upTo_a, .inr (1, [.int z_upTo_upper, .int z_upTo_lower]))]) : CT l G cy kz N0 y_Li_leastSum b_Li_leastSum 2 (some .int) 1 0 0 [.ref z, .int p0] [(z, .inr (4, [.ref z_sums_a, .ref z_from_a, .ref z_upTo_a, .int z_periods])), (z_sums_a, .inl (cy 0, 13, .inl z_sums)), (z_from_a, .inr (1, [.int z_from_upper, .int z_from_lower])), (z_upTo_a, .inr (1, [.int z_upTo_upper, .int z_upTo_lower]))] (some (.int out)) Bp := by
  refine CT.of (by decide) (Nat.le_of_ble_eq_true rfl) ?_
  intro p e s m below meth c A ls hx hb hr hml hB hown hlocks hnm hE hN hA hNA hP hD hS hl
  have hown : s.vm.findClass "YieldDesk$Lines" = some m.cls := hown
  have hl : lv_has ls 2 [(0, .ref z), (1, .int p0)] := hl
  have hf := h0
  unfold f_Li_leastSum at hf
  refine lv_iload_n hx hb d_Li_leastSum_0 rfl (lv_at hl 1 rfl) ?_
  refine lv_iconst (v := (0 : Int32)) hx hb d_Li_leastSum_1 (by decide) ?_
  refine lv_bipush (v := (12 : Int32)) hx hb d_Li_leastSum_2 (by decide) ?_
  obtain ⟨z1, hz1, hf⟩ := obn hf
  refine x_SN0 (As := [.int p0, .int (0 : Int32), .int (12 : Int32)]) (rest := []) (t_Ye_isOutside l G cy kz N0  p0 (0 : Int32) (12 : Int32) z1 hz1 (fun w => w = []) rfl) hx hb hml hown hB hE hN hNA (List.mem_of_getElem? (i := 10) rfl) m_240 m_1 m_241 hdS_Ye_isOutside ⟨Nat.le_of_ble_eq_true rfl, Nat.le_of_ble_eq_true rfl, Nat.le_of_ble_eq_true rfl, Nat.le_of_ble_eq_true rfl⟩ hP hD hS hA hl.1 rfl (Nat.le_of_ble_eq_true rfl) d_Li_leastSum_4 (fun H locs hP hD hS => ?_)
  refine lv_if_eq (tgt := 14) hx hb d_Li_leastSum_7 (by decide) (fun hc2 => ?_) (fun hc2 => ?_)
  · replace hf := iteP hc2 hf
    refine lv_aload_n hx hb d_Li_leastSum_14 rfl (lv_at hl 0 rfl) ?_
    refine va_get (D := G) (ci := 4) (v := .ref z_sums_a) (C := "YieldDesk$Lines") (T := F_Li) (N := 4) hx hb hB fi_Li hown hE.1 hP 0 rfl rfl 0 (by decide) (hB _ m_139) (fun _ h9 => h9) rfl d_Li_leastSum_15 ?_
    refine lv_iload_n hx hb d_Li_leastSum_18 rfl (lv_at hl 1 rfl) ?_
    obtain ⟨hg3, hf⟩ := gdn hf
    refine va_iald hx hb hE.1 hP 1 0 rfl rfl hg3 d_Li_leastSum_19 ?_
    obtain rfl := Option.some.inj hf
    exact W.iret hx hb hr (x_ret hP hD hS hBp) hS.2.2 d_Li_leastSum_20
  · replace hf := iteN hc2 hf
    refine lv_iconst (v := (0 : Int32)) hx hb d_Li_leastSum_10 (by decide) ?_
    refine lv_goto (tgt := 20) hx hb d_Li_leastSum_11 (by decide) ?_
    obtain rfl := Option.some.inj hf
    exact W.iret hx hb hr (x_ret hP hD hS hBp) hS.2.2 d_Li_leastSum_20
set_option maxHeartbeats 4000000 in
set_option maxRecDepth 100000 in
theorem t_Li_isAboveMean (l : Launch) (G : va_G) (cy : Nat → ClassId) (kz : Nat → Nat) (N0 : Nat) (z : Nat) (z_periods : Int32) (z_sums_a : Nat) (z_sums : Nat → Int32) (z_from_a : Nat) (z_from_upper : Int32) (z_from_lower : Int32) (z_upTo_a : Nat) (z_upTo_upper : Int32) (z_upTo_lower : Int32) (p0 : Int32) (out : Int32) (h0 : f_Li_isAboveMean z_periods z_sums p0 = some out) (Bp : va_W → Prop) (hBp : Bp [(z, .inr (4, [.ref z_sums_a, .ref z_from_a, .ref z_upTo_a, .int z_periods])), (z_sums_a, .inl (cy 0, 13, .inl z_sums)), (z_from_a, .inr (1, [.int z_from_upper, .int z_from_lower])), (z_upTo_a, .inr (1, [.int z_upTo_upper, .int z_upTo_lower]))]) : CT l G cy kz N0 y_Li_isAboveMean b_Li_isAboveMean 2 (some .boolean) 2 0 0 [.ref z, .int p0] [(z, .inr (4, [.ref z_sums_a, .ref z_from_a, .ref z_upTo_a, .int z_periods])), (z_sums_a, .inl (cy 0, 13, .inl z_sums)), (z_from_a, .inr (1, [.int z_from_upper, .int z_from_lower])), (z_upTo_a, .inr (1, [.int z_upTo_upper, .int z_upTo_lower]))] (some (.int out)) Bp := by
  refine CT.of (by decide) (Nat.le_of_ble_eq_true rfl) ?_
  intro p e s m below meth c A ls hx hb hr hml hB hown hlocks hnm hE hN hA hNA hP hD hS hl
  have hown : s.vm.findClass "YieldDesk$Lines" = some m.cls := hown
  have hl : lv_has ls 2 [(0, .ref z), (1, .int p0)] := hl
  have hf := h0
  unfold f_Li_isAboveMean at hf
  refine lv_iload_n hx hb d_Li_isAboveMean_0 rfl (lv_at hl 1 rfl) ?_
  refine lv_aload_n hx hb d_Li_isAboveMean_1 rfl (lv_at hl 0 rfl) ?_
  refine va_get (D := G) (ci := 4) (v := .int z_periods) (C := "YieldDesk$Lines") (T := F_Li) (N := 4) hx hb hB fi_Li hown hE.1 hP 0 rfl rfl 3 (by decide) (hB _ m_144) (fun _ h9 => h9) rfl d_Li_isAboveMean_2 ?_
  refine lv_imul hx hb d_Li_isAboveMean_5 ?_
  refine lv_aload_n hx hb d_Li_isAboveMean_6 rfl (lv_at hl 0 rfl) ?_
  refine lv_aload_n hx hb d_Li_isAboveMean_7 rfl (lv_at hl 0 rfl) ?_
  refine va_get (D := G) (ci := 4) (v := .int z_periods) (C := "YieldDesk$Lines") (T := F_Li) (N := 4) hx hb hB fi_Li hown hE.1 hP 0 rfl rfl 3 (by decide) (hB _ m_144) (fun _ h9 => h9) rfl d_Li_isAboveMean_8 ?_
  obtain ⟨z1, hz1, hf⟩ := obn hf
  refine x_V (As := [.int z_periods]) (rest := [.int (p0 * z_periods)]) (wc := [(z, .inr (4, [.ref z_sums_a, .ref z_from_a, .ref z_upTo_a, .int z_periods])), (z_sums_a, .inl (cy 0, 13, .inl z_sums)), (z_from_a, .inr (1, [.int z_from_upper, .int z_from_lower])), (z_upTo_a, .inr (1, [.int z_upTo_upper, .int z_upTo_lower]))]) (wr := []) (t_Li_leastSum l G cy kz N0  z z_periods z_sums_a z_sums z_from_a z_from_upper z_from_lower z_upTo_a z_upTo_upper z_upTo_lower z_periods z1 hz1 (fun w => w = [(z, .inr (4, [.ref z_sums_a, .ref z_from_a, .ref z_upTo_a, .int z_periods])), (z_sums_a, .inl (cy 0, 13, .inl z_sums)), (z_from_a, .inr (1, [.int z_from_upper, .int z_from_lower])), (z_upTo_a, .inr (1, [.int z_upTo_upper, .int z_upTo_lower]))]) rfl) hx hb hml hown hB hE hN hNA m_430 m_418 m_419 m_5 m_420 hdV_Li_leastSum ⟨Nat.le_of_ble_eq_true rfl, Nat.le_of_ble_eq_true rfl, Nat.le_of_ble_eq_true rfl, Nat.le_of_ble_eq_true rfl⟩ hP hD hS hA 0 4 rfl rfl rfl [0, 1, 2, 3] [] rfl rfl (by decide) (by decide) hl.1 rfl (Nat.le_of_ble_eq_true rfl) d_Li_isAboveMean_11 (fun _ H locs hw hP hD hS => ?_)
  subst hw
  replace hP : va_P G classes [(z, .inr (4, [.ref z_sums_a, .ref z_from_a, .ref z_upTo_a, .int z_periods])), (z_sums_a, .inl (cy 0, 13, .inl z_sums)), (z_from_a, .inr (1, [.int z_from_upper, .int z_from_lower])), (z_upTo_a, .inr (1, [.int z_upTo_upper, .int z_upTo_lower]))] H := hP.sub [0, 1, 2, 3] rfl
  replace hD : va_D A [(z, .inr (4, [.ref z_sums_a, .ref z_from_a, .ref z_upTo_a, .int z_periods])), (z_sums_a, .inl (cy 0, 13, .inl z_sums)), (z_from_a, .inr (1, [.int z_from_upper, .int z_from_lower])), (z_upTo_a, .inr (1, [.int z_upTo_upper, .int z_upTo_lower]))] := hD.sub [0, 1, 2, 3] (by decide) rfl
  refine lv_icmp_le (tgt := 21) hx hb d_Li_isAboveMean_14 (by decide) (fun hc2 => ?_) (fun hc2 => ?_)
  · replace hf := iteP hc2 hf
    refine lv_iconst (v := (0 : Int32)) hx hb d_Li_isAboveMean_21 (by decide) ?_
    obtain rfl := Option.some.inj hf
    exact W.zret (v := (0 : Int32)) hx hb hr (show narrow .boolean (.int (0 : Int32)) = .int (0 : Int32) from rfl) (x_ret hP hD hS hBp) hS.2.2 d_Li_isAboveMean_22
  · replace hf := iteN hc2 hf
    refine lv_iconst (v := (1 : Int32)) hx hb d_Li_isAboveMean_17 (by decide) ?_
    refine lv_goto (tgt := 22) hx hb d_Li_isAboveMean_18 (by decide) ?_
    obtain rfl := Option.some.inj hf
    exact W.zret (v := (1 : Int32)) hx hb hr (show narrow .boolean (.int (1 : Int32)) = .int (1 : Int32) from rfl) (x_ret hP hD hS hBp) hS.2.2 d_Li_isAboveMean_22
set_option maxHeartbeats 4000000 in
set_option maxRecDepth 100000 in
theorem t_Li_heightAt (l : Launch) (G : va_G) (cy : Nat → ClassId) (kz : Nat → Nat) (N0 : Nat) (z : Nat) (z_periods : Int32) (z_sums_a : Nat) (z_sums : Nat → Int32) (z_from_a : Nat) (z_from_upper : Int32) (z_from_lower : Int32) (z_upTo_a : Nat) (z_upTo_upper : Int32) (z_upTo_lower : Int32) (p0 : Int32) (out : Int32) (h0 : f_Li_heightAt z_periods z_sums p0 = some out) (Bp : va_W → Prop) (hBp : Bp [(z, .inr (4, [.ref z_sums_a, .ref z_from_a, .ref z_upTo_a, .int z_periods])), (z_sums_a, .inl (cy 0, 13, .inl z_sums)), (z_from_a, .inr (1, [.int z_from_upper, .int z_from_lower])), (z_upTo_a, .inr (1, [.int z_upTo_upper, .int z_upTo_lower]))]) : CT l G cy kz N0 y_Li_heightAt b_Li_heightAt 4 (some .int) 2 0 0 [.ref z, .int p0] [(z, .inr (4, [.ref z_sums_a, .ref z_from_a, .ref z_upTo_a, .int z_periods])), (z_sums_a, .inl (cy 0, 13, .inl z_sums)), (z_from_a, .inr (1, [.int z_from_upper, .int z_from_lower])), (z_upTo_a, .inr (1, [.int z_upTo_upper, .int z_upTo_lower]))] (some (.int out)) Bp := by
  refine CT.of (by decide) (Nat.le_of_ble_eq_true rfl) ?_
  intro p e s m below meth c A ls hx hb hr hml hB hown hlocks hnm hE hN hA hNA hP hD hS hl
  have hown : s.vm.findClass "YieldDesk$Lines" = some m.cls := hown
  have hl : lv_has ls 4 [(0, .ref z), (1, .int p0)] := hl
  have hf := h0
  unfold f_Li_heightAt at hf
  refine lv_iconst (v := (0 : Int32)) hx hb d_Li_heightAt_0 (by decide) ?_
  refine lv_istore_n (lv' := [(2, .int (0 : Int32)), (0, .ref z), (1, .int p0)]) hx hb d_Li_heightAt_1 rfl hl (by decide) rfl (fun ls hl => ?_)
  refine lv_iconst (v := (1 : Int32)) hx hb d_Li_heightAt_2 (by decide) ?_
  refine lv_istore_n (lv' := [(3, .int (1 : Int32)), (2, .int (0 : Int32)), (0, .ref z), (1, .int p0)]) hx hb d_Li_heightAt_3 rfl hl (by decide) rfl (fun ls hl => ?_)
  obtain ⟨z4, hz4, hf⟩ := obn hf
  have K1 : ∀ (H : Heap) (locs : List Loc), va_P G classes [(z, .inr (4, [.ref z_sums_a, .ref z_from_a, .ref z_upTo_a, .int z_periods])), (z_sums_a, .inl (cy 0, 13, .inl z_sums)), (z_from_a, .inr (1, [.int z_from_upper, .int z_from_lower])), (z_upTo_a, .inr (1, [.int z_upTo_upper, .int z_upTo_lower]))] H → va_D A [(z, .inr (4, [.ref z_sums_a, .ref z_from_a, .ref z_upTo_a, .int z_periods])), (z_sums_a, .inl (cy 0, 13, .inl z_sums)), (z_from_a, .inr (1, [.int z_from_upper, .int z_from_lower])), (z_upTo_a, .inr (1, [.int z_upTo_upper, .int z_upTo_lower]))] → va_S A s.heap H locs → ∀ (ls : Array Slot), lv_has ls 4 [(0, .ref z), (1, .int p0), (2, .int z4.1), (3, .int z4.2)] → W p l e (RM 2 0 0) s m ([.ref z, .int p0] : List Value).toArray below meth c H locs 0 0 (MQ below (CQ G (some (.int out)) Bp A) ([.ref z, .int p0] : List Value).toArray s 0 0 A) (F0 m 32 ls []) := by
    intro H locs hP hD hS ls hl
    refine lv_iload_n hx hb d_Li_heightAt_32 rfl (lv_at hl 2 rfl) ?_
    obtain rfl := Option.some.inj hf
    exact W.iret hx hb hr (x_ret hP hD hS hBp) hS.2.2 d_Li_heightAt_33
  clear hf
  have L3 : ∀ (n : Nat) (i2_4 : Int32) (i3_4 : Int32), f_Li_heightAt_L4 z_periods z_sums p0 n i2_4 i3_4 = some z4 → ∀ (H : Heap) (locs : List Loc), va_P G classes [(z, .inr (4, [.ref z_sums_a, .ref z_from_a, .ref z_upTo_a, .int z_periods])), (z_sums_a, .inl (cy 0, 13, .inl z_sums)), (z_from_a, .inr (1, [.int z_from_upper, .int z_from_lower])), (z_upTo_a, .inr (1, [.int z_upTo_upper, .int z_upTo_lower]))] H → va_D A [(z, .inr (4, [.ref z_sums_a, .ref z_from_a, .ref z_upTo_a, .int z_periods])), (z_sums_a, .inl (cy 0, 13, .inl z_sums)), (z_from_a, .inr (1, [.int z_from_upper, .int z_from_lower])), (z_upTo_a, .inr (1, [.int z_upTo_upper, .int z_upTo_lower]))] → va_S A s.heap H locs → ∀ (ls : Array Slot), lv_has ls 4 [(0, .ref z), (1, .int p0), (2, .int i2_4), (3, .int i3_4)] → W p l e (RM 2 0 0) s m ([.ref z, .int p0] : List Value).toArray below meth c H locs 0 0 (MQ below (CQ G (some (.int out)) Bp A) ([.ref z, .int p0] : List Value).toArray s 0 0 A) (F0 m 4 ls []) := by
    intro n
    induction n with
    | zero => intro i2_4 i3_4 hf; exact absurd ((f_Li_heightAt_L4_z z_periods z_sums p0 i2_4 i3_4).symm.trans hf) (by intro h; cases h)
    | succ n ih =>
      intro i2_4 i3_4 hf H locs hP hD hS ls hl
      replace hf := (f_Li_heightAt_L4_s z_periods z_sums p0 n i2_4 i3_4).symm.trans hf
      refine lv_iload_n hx hb d_Li_heightAt_4 rfl (lv_at hl 3 rfl) ?_
      refine lv_aload_n hx hb d_Li_heightAt_5 rfl (lv_at hl 0 rfl) ?_
      refine va_get (D := G) (ci := 4) (v := .int z_periods) (C := "YieldDesk$Lines") (T := F_Li) (N := 4) hx hb hB fi_Li hown hE.1 hP 0 rfl rfl 3 (by decide) (hB _ m_144) (fun _ h9 => h9) rfl d_Li_heightAt_6 ?_
      refine lv_icmp_gt (tgt := 32) hx hb d_Li_heightAt_9 (by decide) (fun hc5 => ?_) (fun hc5 => ?_)
      · replace hf := iteP hc5 hf
        obtain rfl := Option.some.inj hf
        exact K1 _ _ hP hD hS _ (lv_sub hl [0, 1, 2, 3] rfl)
      · replace hf := iteN hc5 hf
        refine lv_iload_n hx hb d_Li_heightAt_12 rfl (lv_at hl 2 rfl) ?_
        refine lv_iload_n hx hb d_Li_heightAt_13 rfl (lv_at hl 3 rfl) ?_
        refine lv_iload_n hx hb d_Li_heightAt_14 rfl (lv_at hl 1 rfl) ?_
        refine lv_imul hx hb d_Li_heightAt_15 ?_
        refine lv_aload_n hx hb d_Li_heightAt_16 rfl (lv_at hl 0 rfl) ?_
        refine lv_iload_n hx hb d_Li_heightAt_17 rfl (lv_at hl 3 rfl) ?_
        obtain ⟨z6, hz6, hf⟩ := obn hf
        refine x_V (As := [.int i3_4]) (rest := [.int (i3_4 * p0), .int i2_4]) (wc := [(z, .inr (4, [.ref z_sums_a, .ref z_from_a, .ref z_upTo_a, .int z_periods])), (z_sums_a, .inl (cy 0, 13, .inl z_sums)), (z_from_a, .inr (1, [.int z_from_upper, .int z_from_lower])), (z_upTo_a, .inr (1, [.int z_upTo_upper, .int z_upTo_lower]))]) (wr := []) (t_Li_leastSum l G cy kz N0  z z_periods z_sums_a z_sums z_from_a z_from_upper z_from_lower z_upTo_a z_upTo_upper z_upTo_lower i3_4 z6 hz6 (fun w => w = [(z, .inr (4, [.ref z_sums_a, .ref z_from_a, .ref z_upTo_a, .int z_periods])), (z_sums_a, .inl (cy 0, 13, .inl z_sums)), (z_from_a, .inr (1, [.int z_from_upper, .int z_from_lower])), (z_upTo_a, .inr (1, [.int z_upTo_upper, .int z_upTo_lower]))]) rfl) hx hb hml hown hB hE hN hNA m_430 m_418 m_419 m_5 m_420 hdV_Li_leastSum ⟨Nat.le_of_ble_eq_true rfl, Nat.le_of_ble_eq_true rfl, Nat.le_of_ble_eq_true rfl, Nat.le_of_ble_eq_true rfl⟩ hP hD hS hA 0 4 rfl rfl rfl [0, 1, 2, 3] [] rfl rfl (by decide) (by decide) hl.1 rfl (Nat.le_of_ble_eq_true rfl) d_Li_heightAt_18 (fun _ H locs hw hP hD hS => ?_)
        subst hw
        replace hP : va_P G classes [(z, .inr (4, [.ref z_sums_a, .ref z_from_a, .ref z_upTo_a, .int z_periods])), (z_sums_a, .inl (cy 0, 13, .inl z_sums)), (z_from_a, .inr (1, [.int z_from_upper, .int z_from_lower])), (z_upTo_a, .inr (1, [.int z_upTo_upper, .int z_upTo_lower]))] H := hP.sub [0, 1, 2, 3] rfl
        replace hD : va_D A [(z, .inr (4, [.ref z_sums_a, .ref z_from_a, .ref z_upTo_a, .int z_periods])), (z_sums_a, .inl (cy 0, 13, .inl z_sums)), (z_from_a, .inr (1, [.int z_from_upper, .int z_from_lower])), (z_upTo_a, .inr (1, [.int z_upTo_upper, .int z_upTo_lower]))] := hD.sub [0, 1, 2, 3] (by decide) rfl
        refine lv_isub hx hb d_Li_heightAt_21 ?_
        refine va_mmax hx hb (hml.trans hl.1.symm) hown (hB _ m_415) (hB _ m_361) (hB _ m_10) (hB _ m_362) (Nat.le_of_ble_eq_true rfl) (Nat.le_of_ble_eq_true rfl) (Nat.le_of_ble_eq_true rfl) (Nat.le_of_ble_eq_true rfl) d_Li_heightAt_22 ?_
        refine lv_istore_n (lv' := [(2, .int (if i2_4 < ((i3_4 * p0) - z6) then ((i3_4 * p0) - z6) else i2_4)), (0, .ref z), (1, .int p0), (3, .int i3_4)]) hx hb d_Li_heightAt_25 rfl hl (by decide) rfl (fun ls hl => ?_)
        refine lv_iinc (v := (i3_4 + (1 : Int32))) (lv' := [(3, .int (i3_4 + (1 : Int32))), (2, .int (if i2_4 < ((i3_4 * p0) - z6) then ((i3_4 * p0) - z6) else i2_4)), (0, .ref z), (1, .int p0)]) hx hb d_Li_heightAt_26 hl (k := 3) rfl rfl (by decide) rfl (fun ls hl => ?_)
        refine lv_goto (tgt := 4) hx hb d_Li_heightAt_29 (by decide) ?_
        exact ih (if i2_4 < ((i3_4 * p0) - z6) then ((i3_4 * p0) - z6) else i2_4) (i3_4 + (1 : Int32)) hf _ _ hP hD hS _ (lv_sub hl [2, 3, 1, 0] rfl)
  exact L3 FU (0 : Int32) (1 : Int32) hz4 _ _ hP hD hS _ (lv_sub hl [2, 3, 1, 0] rfl)
set_option maxHeartbeats 4000000 in
set_option maxRecDepth 100000 in
theorem t_Li_findSure (l : Launch) (G : va_G) (cy : Nat → ClassId) (kz : Nat → Nat) (N0 : Nat) (z : Nat) (z_periods : Int32) (z_sums_a : Nat) (z_sums : Nat → Int32) (z_from_a : Nat) (z_from_upper : Int32) (z_from_lower : Int32) (z_upTo_a : Nat) (z_upTo_upper : Int32) (z_upTo_lower : Int32) (p0 : Int32) (out : Int32 × Int32) (h0 : f_Li_findSure z_periods z_sums p0 = some out) (Bp : va_W → Prop) (hBp : Bp [(z, .inr (4, [.ref z_sums_a, .ref z_from_a, .ref z_upTo_a, .int z_periods])), (z_sums_a, .inl (cy 0, 13, .inl z_sums)), (z_from_a, .inr (1, [.int z_from_upper, .int z_from_lower])), (z_upTo_a, .inr (1, [.int out.1, .int out.2]))]) : CT l G cy kz N0 y_Li_findSure b_Li_findSure 3 none 3 0 0 [.ref z, .int p0] [(z, .inr (4, [.ref z_sums_a, .ref z_from_a, .ref z_upTo_a, .int z_periods])), (z_sums_a, .inl (cy 0, 13, .inl z_sums)), (z_from_a, .inr (1, [.int z_from_upper, .int z_from_lower])), (z_upTo_a, .inr (1, [.int z_upTo_upper, .int z_upTo_lower]))] none Bp := by
  refine CT.of (by decide) (Nat.le_of_ble_eq_true rfl) ?_
  intro p e s m below meth c A ls hx hb hr hml hB hown hlocks hnm hE hN hA hNA hP hD hS hl
  have hown : s.vm.findClass "YieldDesk$Lines" = some m.cls := hown
  have hl : lv_has ls 3 [(0, .ref z), (1, .int p0)] := hl
  have hf := h0
  unfold f_Li_findSure at hf
  refine lv_aload_n hx hb d_Li_findSure_0 rfl (lv_at hl 0 rfl) ?_
  refine va_get (D := G) (ci := 4) (v := .ref z_upTo_a) (C := "YieldDesk$Lines") (T := F_Li) (N := 4) hx hb hB fi_Li hown hE.1 hP 0 rfl rfl 2 (by decide) (hB _ m_142) (fun _ h9 => h9) rfl d_Li_findSure_1 ?_
  refine lv_aload_n hx hb d_Li_findSure_4 rfl (lv_at hl 0 rfl) ?_
  refine lv_aload_n hx hb d_Li_findSure_5 rfl (lv_at hl 0 rfl) ?_
  refine va_get (D := G) (ci := 4) (v := .int z_periods) (C := "YieldDesk$Lines") (T := F_Li) (N := 4) hx hb hB fi_Li hown hE.1 hP 0 rfl rfl 3 (by decide) (hB _ m_144) (fun _ h9 => h9) rfl d_Li_findSure_6 ?_
  obtain ⟨z1, hz1, hf⟩ := obn hf
  refine x_V (As := [.int z_periods]) (rest := [.ref z_upTo_a]) (wc := [(z, .inr (4, [.ref z_sums_a, .ref z_from_a, .ref z_upTo_a, .int z_periods])), (z_sums_a, .inl (cy 0, 13, .inl z_sums)), (z_from_a, .inr (1, [.int z_from_upper, .int z_from_lower])), (z_upTo_a, .inr (1, [.int z_upTo_upper, .int z_upTo_lower]))]) (wr := []) (t_Li_leastSum l G cy kz N0  z z_periods z_sums_a z_sums z_from_a z_from_upper z_from_lower z_upTo_a z_upTo_upper z_upTo_lower z_periods z1 hz1 (fun w => w = [(z, .inr (4, [.ref z_sums_a, .ref z_from_a, .ref z_upTo_a, .int z_periods])), (z_sums_a, .inl (cy 0, 13, .inl z_sums)), (z_from_a, .inr (1, [.int z_from_upper, .int z_from_lower])), (z_upTo_a, .inr (1, [.int z_upTo_upper, .int z_upTo_lower]))]) rfl) hx hb hml hown hB hE hN hNA m_430 m_418 m_419 m_5 m_420 hdV_Li_leastSum ⟨Nat.le_of_ble_eq_true rfl, Nat.le_of_ble_eq_true rfl, Nat.le_of_ble_eq_true rfl, Nat.le_of_ble_eq_true rfl⟩ hP hD hS hA 0 4 rfl rfl rfl [0, 1, 2, 3] [] rfl rfl (by decide) (by decide) hl.1 rfl (Nat.le_of_ble_eq_true rfl) d_Li_findSure_9 (fun _ H locs hw hP hD hS => ?_)
  subst hw
  replace hP : va_P G classes [(z, .inr (4, [.ref z_sums_a, .ref z_from_a, .ref z_upTo_a, .int z_periods])), (z_sums_a, .inl (cy 0, 13, .inl z_sums)), (z_from_a, .inr (1, [.int z_from_upper, .int z_from_lower])), (z_upTo_a, .inr (1, [.int z_upTo_upper, .int z_upTo_lower]))] H := hP.sub [0, 1, 2, 3] rfl
  replace hD : va_D A [(z, .inr (4, [.ref z_sums_a, .ref z_from_a, .ref z_upTo_a, .int z_periods])), (z_sums_a, .inl (cy 0, 13, .inl z_sums)), (z_from_a, .inr (1, [.int z_from_upper, .int z_from_lower])), (z_upTo_a, .inr (1, [.int z_upTo_upper, .int z_upTo_lower]))] := hD.sub [0, 1, 2, 3] (by decide) rfl
  refine lv_aload_n hx hb d_Li_findSure_12 rfl (lv_at hl 0 rfl) ?_
  refine va_get (D := G) (ci := 4) (v := .int z_periods) (C := "YieldDesk$Lines") (T := F_Li) (N := 4) hx hb hB fi_Li hown hE.1 hP 0 rfl rfl 3 (by decide) (hB _ m_144) (fun _ h9 => h9) rfl d_Li_findSure_13 ?_
  obtain ⟨z2, hz2, hf⟩ := obn hf
  refine x_V (As := [.int z1, .int z_periods]) (rest := []) (wc := [(z_upTo_a, .inr (1, [.int z_upTo_upper, .int z_upTo_lower]))]) (wr := [(z, .inr (4, [.ref z_sums_a, .ref z_from_a, .ref z_upTo_a, .int z_periods])), (z_sums_a, .inl (cy 0, 13, .inl z_sums)), (z_from_a, .inr (1, [.int z_from_upper, .int z_from_lower]))]) (t_Fr_become l G cy kz N0  z_upTo_a z_upTo_upper z_upTo_lower z1 z_periods z2 hz2 (fun w => w = [(z_upTo_a, .inr (1, [.int z2.1, .int z2.2]))]) rfl) hx hb hml hown hB hE hN hNA m_443 m_444 m_445 m_6 m_446 hdV_Fr_become ⟨Nat.le_of_ble_eq_true rfl, Nat.le_of_ble_eq_true rfl, Nat.le_of_ble_eq_true rfl, Nat.le_of_ble_eq_true rfl⟩ hP hD hS hA 3 1 rfl rfl rfl [3] [0, 1, 2] rfl rfl (by decide) (by decide) hl.1 rfl (Nat.le_of_ble_eq_true rfl) d_Li_findSure_16 (fun _ H locs hw hP hD hS => ?_)
  subst hw
  replace hP : va_P G classes [(z, .inr (4, [.ref z_sums_a, .ref z_from_a, .ref z_upTo_a, .int z_periods])), (z_sums_a, .inl (cy 0, 13, .inl z_sums)), (z_from_a, .inr (1, [.int z_from_upper, .int z_from_lower])), (z_upTo_a, .inr (1, [.int z2.1, .int z2.2]))] H := hP.sub [0, 1, 2, 3] rfl
  replace hD : va_D A [(z, .inr (4, [.ref z_sums_a, .ref z_from_a, .ref z_upTo_a, .int z_periods])), (z_sums_a, .inl (cy 0, 13, .inl z_sums)), (z_from_a, .inr (1, [.int z_from_upper, .int z_from_lower])), (z_upTo_a, .inr (1, [.int z2.1, .int z2.2]))] := hD.sub [0, 1, 2, 3] (by decide) rfl
  refine lv_iconst (v := (1 : Int32)) hx hb d_Li_findSure_19 (by decide) ?_
  refine lv_istore_n (lv' := [(2, .int (1 : Int32)), (0, .ref z), (1, .int p0)]) hx hb d_Li_findSure_20 rfl hl (by decide) rfl (fun ls hl => ?_)
  obtain ⟨z6, hz6, hf⟩ := obn hf
  have K3 : ∀ (H : Heap) (locs : List Loc), va_P G classes [(z, .inr (4, [.ref z_sums_a, .ref z_from_a, .ref z_upTo_a, .int z_periods])), (z_sums_a, .inl (cy 0, 13, .inl z_sums)), (z_from_a, .inr (1, [.int z_from_upper, .int z_from_lower])), (z_upTo_a, .inr (1, [.int z6.2.1, .int z6.2.2]))] H → va_D A [(z, .inr (4, [.ref z_sums_a, .ref z_from_a, .ref z_upTo_a, .int z_periods])), (z_sums_a, .inl (cy 0, 13, .inl z_sums)), (z_from_a, .inr (1, [.int z_from_upper, .int z_from_lower])), (z_upTo_a, .inr (1, [.int z6.2.1, .int z6.2.2]))] → va_S A s.heap H locs → ∀ (ls : Array Slot), lv_has ls 3 [(0, .ref z), (1, .int p0), (2, .int z6.1)] → W p l e (RM 3 0 0) s m ([.ref z, .int p0] : List Value).toArray below meth c H locs 0 0 (MQ below (CQ G none Bp A) ([.ref z, .int p0] : List Value).toArray s 0 0 A) (F0 m 50 ls []) := by
    intro H locs hP hD hS ls hl
    obtain rfl := Option.some.inj hf
    exact W.vret hx hb hr (x_ret hP hD hS hBp) hS.2.2 d_Li_findSure_50
  clear hf
  have L5 : ∀ (n : Nat) (i2_21 : Int32) (z_upTo_upper_21 : Int32) (z_upTo_lower_21 : Int32), f_Li_findSure_L21 z_periods z_sums p0 n i2_21 z_upTo_upper_21 z_upTo_lower_21 = some z6 → ∀ (H : Heap) (locs : List Loc), va_P G classes [(z, .inr (4, [.ref z_sums_a, .ref z_from_a, .ref z_upTo_a, .int z_periods])), (z_sums_a, .inl (cy 0, 13, .inl z_sums)), (z_from_a, .inr (1, [.int z_from_upper, .int z_from_lower])), (z_upTo_a, .inr (1, [.int z_upTo_upper_21, .int z_upTo_lower_21]))] H → va_D A [(z, .inr (4, [.ref z_sums_a, .ref z_from_a, .ref z_upTo_a, .int z_periods])), (z_sums_a, .inl (cy 0, 13, .inl z_sums)), (z_from_a, .inr (1, [.int z_from_upper, .int z_from_lower])), (z_upTo_a, .inr (1, [.int z_upTo_upper_21, .int z_upTo_lower_21]))] → va_S A s.heap H locs → ∀ (ls : Array Slot), lv_has ls 3 [(0, .ref z), (1, .int p0), (2, .int i2_21)] → W p l e (RM 3 0 0) s m ([.ref z, .int p0] : List Value).toArray below meth c H locs 0 0 (MQ below (CQ G none Bp A) ([.ref z, .int p0] : List Value).toArray s 0 0 A) (F0 m 21 ls []) := by
    intro n
    induction n with
    | zero => intro i2_21 z_upTo_upper_21 z_upTo_lower_21 hf; exact absurd ((f_Li_findSure_L21_z z_periods z_sums p0 i2_21 z_upTo_upper_21 z_upTo_lower_21).symm.trans hf) (by intro h; cases h)
    | succ n ih =>
      intro i2_21 z_upTo_upper_21 z_upTo_lower_21 hf H locs hP hD hS ls hl
      replace hf := (f_Li_findSure_L21_s z_periods z_sums p0 n i2_21 z_upTo_upper_21 z_upTo_lower_21).symm.trans hf
      refine lv_iload_n hx hb d_Li_findSure_21 rfl (lv_at hl 2 rfl) ?_
      refine lv_aload_n hx hb d_Li_findSure_22 rfl (lv_at hl 0 rfl) ?_
      refine va_get (D := G) (ci := 4) (v := .int z_periods) (C := "YieldDesk$Lines") (T := F_Li) (N := 4) hx hb hB fi_Li hown hE.1 hP 0 rfl rfl 3 (by decide) (hB _ m_144) (fun _ h9 => h9) rfl d_Li_findSure_23 ?_
      refine lv_icmp_gt (tgt := 50) hx hb d_Li_findSure_26 (by decide) (fun hc7 => ?_) (fun hc7 => ?_)
      · replace hf := iteP hc7 hf
        obtain rfl := Option.some.inj hf
        exact K3 _ _ hP hD hS _ (lv_sub hl [0, 1, 2] rfl)
      · replace hf := iteN hc7 hf
        refine lv_aload_n hx hb d_Li_findSure_29 rfl (lv_at hl 0 rfl) ?_
        refine va_get (D := G) (ci := 4) (v := .ref z_upTo_a) (C := "YieldDesk$Lines") (T := F_Li) (N := 4) hx hb hB fi_Li hown hE.1 hP 0 rfl rfl 2 (by decide) (hB _ m_142) (fun _ h9 => h9) rfl d_Li_findSure_30 ?_
        refine lv_iload_n hx hb d_Li_findSure_33 rfl (lv_at hl 1 rfl) ?_
        refine lv_aload_n hx hb d_Li_findSure_34 rfl (lv_at hl 0 rfl) ?_
        refine lv_iload_n hx hb d_Li_findSure_35 rfl (lv_at hl 2 rfl) ?_
        obtain ⟨z8, hz8, hf⟩ := obn hf
        refine x_V (As := [.int i2_21]) (rest := [.int p0, .ref z_upTo_a]) (wc := [(z, .inr (4, [.ref z_sums_a, .ref z_from_a, .ref z_upTo_a, .int z_periods])), (z_sums_a, .inl (cy 0, 13, .inl z_sums)), (z_from_a, .inr (1, [.int z_from_upper, .int z_from_lower])), (z_upTo_a, .inr (1, [.int z_upTo_upper_21, .int z_upTo_lower_21]))]) (wr := []) (t_Li_leastSum l G cy kz N0  z z_periods z_sums_a z_sums z_from_a z_from_upper z_from_lower z_upTo_a z_upTo_upper_21 z_upTo_lower_21 i2_21 z8 hz8 (fun w => w = [(z, .inr (4, [.ref z_sums_a, .ref z_from_a, .ref z_upTo_a, .int z_periods])), (z_sums_a, .inl (cy 0, 13, .inl z_sums)), (z_from_a, .inr (1, [.int z_from_upper, .int z_from_lower])), (z_upTo_a, .inr (1, [.int z_upTo_upper_21, .int z_upTo_lower_21]))]) rfl) hx hb hml hown hB hE hN hNA m_430 m_418 m_419 m_5 m_420 hdV_Li_leastSum ⟨Nat.le_of_ble_eq_true rfl, Nat.le_of_ble_eq_true rfl, Nat.le_of_ble_eq_true rfl, Nat.le_of_ble_eq_true rfl⟩ hP hD hS hA 0 4 rfl rfl rfl [0, 1, 2, 3] [] rfl rfl (by decide) (by decide) hl.1 rfl (Nat.le_of_ble_eq_true rfl) d_Li_findSure_36 (fun _ H locs hw hP hD hS => ?_)
        subst hw
        replace hP : va_P G classes [(z, .inr (4, [.ref z_sums_a, .ref z_from_a, .ref z_upTo_a, .int z_periods])), (z_sums_a, .inl (cy 0, 13, .inl z_sums)), (z_from_a, .inr (1, [.int z_from_upper, .int z_from_lower])), (z_upTo_a, .inr (1, [.int z_upTo_upper_21, .int z_upTo_lower_21]))] H := hP.sub [0, 1, 2, 3] rfl
        replace hD : va_D A [(z, .inr (4, [.ref z_sums_a, .ref z_from_a, .ref z_upTo_a, .int z_periods])), (z_sums_a, .inl (cy 0, 13, .inl z_sums)), (z_from_a, .inr (1, [.int z_from_upper, .int z_from_lower])), (z_upTo_a, .inr (1, [.int z_upTo_upper_21, .int z_upTo_lower_21]))] := hD.sub [0, 1, 2, 3] (by decide) rfl
        refine lv_iadd hx hb d_Li_findSure_39 ?_
        refine lv_iload_n hx hb d_Li_findSure_40 rfl (lv_at hl 2 rfl) ?_
        obtain ⟨z9, hz9, hf⟩ := obn hf
        refine x_V (As := [.int (p0 + z8), .int i2_21]) (rest := []) (wc := [(z_upTo_a, .inr (1, [.int z_upTo_upper_21, .int z_upTo_lower_21]))]) (wr := [(z, .inr (4, [.ref z_sums_a, .ref z_from_a, .ref z_upTo_a, .int z_periods])), (z_sums_a, .inl (cy 0, 13, .inl z_sums)), (z_from_a, .inr (1, [.int z_from_upper, .int z_from_lower]))]) (t_Fr_lowerTo l G cy kz N0  z_upTo_a z_upTo_upper_21 z_upTo_lower_21 (p0 + z8) i2_21 z9 hz9 (fun w => w = [(z_upTo_a, .inr (1, [.int z9.1, .int z9.2]))]) rfl) hx hb hml hown hB hE hN hNA m_448 m_449 m_450 m_6 m_451 hdV_Fr_lowerTo ⟨Nat.le_of_ble_eq_true rfl, Nat.le_of_ble_eq_true rfl, Nat.le_of_ble_eq_true rfl, Nat.le_of_ble_eq_true rfl⟩ hP hD hS hA 3 1 rfl rfl rfl [3] [0, 1, 2] rfl rfl (by decide) (by decide) hl.1 rfl (Nat.le_of_ble_eq_true rfl) d_Li_findSure_41 (fun _ H locs hw hP hD hS => ?_)
        subst hw
        replace hP : va_P G classes [(z, .inr (4, [.ref z_sums_a, .ref z_from_a, .ref z_upTo_a, .int z_periods])), (z_sums_a, .inl (cy 0, 13, .inl z_sums)), (z_from_a, .inr (1, [.int z_from_upper, .int z_from_lower])), (z_upTo_a, .inr (1, [.int z9.1, .int z9.2]))] H := hP.sub [0, 1, 2, 3] rfl
        replace hD : va_D A [(z, .inr (4, [.ref z_sums_a, .ref z_from_a, .ref z_upTo_a, .int z_periods])), (z_sums_a, .inl (cy 0, 13, .inl z_sums)), (z_from_a, .inr (1, [.int z_from_upper, .int z_from_lower])), (z_upTo_a, .inr (1, [.int z9.1, .int z9.2]))] := hD.sub [0, 1, 2, 3] (by decide) rfl
        refine lv_iinc (v := (i2_21 + (1 : Int32))) (lv' := [(2, .int (i2_21 + (1 : Int32))), (0, .ref z), (1, .int p0)]) hx hb d_Li_findSure_44 hl (k := 2) rfl rfl (by decide) rfl (fun ls hl => ?_)
        refine lv_goto (tgt := 21) hx hb d_Li_findSure_47 (by decide) ?_
        exact ih (i2_21 + (1 : Int32)) z9.1 z9.2 hf _ _ hP hD hS _ (lv_sub hl [1, 2, 0] rfl)
  exact L5 FU (1 : Int32) z2.1 z2.2 hz6 _ _ hP hD hS _ (lv_sub hl [1, 2, 0] rfl)
set_option maxHeartbeats 4000000 in
set_option maxRecDepth 100000 in
theorem t_Li_isPiece (l : Launch) (G : va_G) (cy : Nat → ClassId) (kz : Nat → Nat) (N0 : Nat) (z : Nat) (z_periods : Int32) (z_sums_a : Nat) (z_sums : Nat → Int32) (z_from_a : Nat) (z_from_upper : Int32) (z_from_lower : Int32) (z_upTo_a : Nat) (z_upTo_upper : Int32) (z_upTo_lower : Int32) (p0 : Int32) (out : Int32 × Int32 × Int32 × Int32 × Int32) (h0 : f_Li_isPiece z_periods z_sums p0 = some out) (Bp : va_W → Prop) (hBp : Bp [(z, .inr (4, [.ref z_sums_a, .ref z_from_a, .ref z_upTo_a, .int z_periods])), (z_sums_a, .inl (cy 0, 13, .inl z_sums)), (z_from_a, .inr (1, [.int out.2.1, .int out.2.2.1])), (z_upTo_a, .inr (1, [.int out.2.2.2.1, .int out.2.2.2.2]))]) : CT l G cy kz N0 y_Li_isPiece b_Li_isPiece 3 (some .boolean) 3 0 0 [.ref z, .int p0] [(z, .inr (4, [.ref z_sums_a, .ref z_from_a, .ref z_upTo_a, .int z_periods])), (z_sums_a, .inl (cy 0, 13, .inl z_sums)), (z_from_a, .inr (1, [.int z_from_upper, .int z_from_lower])), (z_upTo_a, .inr (1, [.int z_upTo_upper, .int z_upTo_lower]))] (some (.int out.1)) Bp := by
  refine CT.of (by decide) (Nat.le_of_ble_eq_true rfl) ?_
  intro p e s m below meth c A ls hx hb hr hml hB hown hlocks hnm hE hN hA hNA hP hD hS hl
  have hown : s.vm.findClass "YieldDesk$Lines" = some m.cls := hown
  have hl : lv_has ls 3 [(0, .ref z), (1, .int p0)] := hl
  have hf := h0
  unfold f_Li_isPiece at hf
  refine lv_aload_n hx hb d_Li_isPiece_0 rfl (lv_at hl 0 rfl) ?_
  refine va_get (D := G) (ci := 4) (v := .ref z_from_a) (C := "YieldDesk$Lines") (T := F_Li) (N := 4) hx hb hB fi_Li hown hE.1 hP 0 rfl rfl 1 (by decide) (hB _ m_140) (fun _ h9 => h9) rfl d_Li_isPiece_1 ?_
  refine lv_iconst (v := (0 : Int32)) hx hb d_Li_isPiece_4 (by decide) ?_
  refine lv_iconst (v := (1 : Int32)) hx hb d_Li_isPiece_5 (by decide) ?_
  obtain ⟨z1, hz1, hf⟩ := obn hf
  refine x_V (As := [.int (0 : Int32), .int (1 : Int32)]) (rest := []) (wc := [(z_from_a, .inr (1, [.int z_from_upper, .int z_from_lower]))]) (wr := [(z, .inr (4, [.ref z_sums_a, .ref z_from_a, .ref z_upTo_a, .int z_periods])), (z_sums_a, .inl (cy 0, 13, .inl z_sums)), (z_upTo_a, .inr (1, [.int z_upTo_upper, .int z_upTo_lower]))]) (t_Fr_become l G cy kz N0  z_from_a z_from_upper z_from_lower (0 : Int32) (1 : Int32) z1 hz1 (fun w => w = [(z_from_a, .inr (1, [.int z1.1, .int z1.2]))]) rfl) hx hb hml hown hB hE hN hNA m_443 m_444 m_445 m_6 m_446 hdV_Fr_become ⟨Nat.le_of_ble_eq_true rfl, Nat.le_of_ble_eq_true rfl, Nat.le_of_ble_eq_true rfl, Nat.le_of_ble_eq_true rfl⟩ hP hD hS hA 2 1 rfl rfl rfl [2] [0, 1, 3] rfl rfl (by decide) (by decide) hl.1 rfl (Nat.le_of_ble_eq_true rfl) d_Li_isPiece_6 (fun _ H locs hw hP hD hS => ?_)
  subst hw
  replace hP : va_P G classes [(z, .inr (4, [.ref z_sums_a, .ref z_from_a, .ref z_upTo_a, .int z_periods])), (z_sums_a, .inl (cy 0, 13, .inl z_sums)), (z_from_a, .inr (1, [.int z1.1, .int z1.2])), (z_upTo_a, .inr (1, [.int z_upTo_upper, .int z_upTo_lower]))] H := hP.sub [0, 1, 3, 2] rfl
  replace hD : va_D A [(z, .inr (4, [.ref z_sums_a, .ref z_from_a, .ref z_upTo_a, .int z_periods])), (z_sums_a, .inl (cy 0, 13, .inl z_sums)), (z_from_a, .inr (1, [.int z1.1, .int z1.2])), (z_upTo_a, .inr (1, [.int z_upTo_upper, .int z_upTo_lower]))] := hD.sub [0, 1, 3, 2] (by decide) rfl
  refine lv_aload_n hx hb d_Li_isPiece_9 rfl (lv_at hl 0 rfl) ?_
  refine va_get (D := G) (ci := 4) (v := .ref z_upTo_a) (C := "YieldDesk$Lines") (T := F_Li) (N := 4) hx hb hB fi_Li hown hE.1 hP 0 rfl rfl 2 (by decide) (hB _ m_142) (fun _ h9 => h9) rfl d_Li_isPiece_10 ?_
  refine lv_aload_n hx hb d_Li_isPiece_13 rfl (lv_at hl 0 rfl) ?_
  refine lv_aload_n hx hb d_Li_isPiece_14 rfl (lv_at hl 0 rfl) ?_
  refine va_get (D := G) (ci := 4) (v := .int z_periods) (C := "YieldDesk$Lines") (T := F_Li) (N := 4) hx hb hB fi_Li hown hE.1 hP 0 rfl rfl 3 (by decide) (hB _ m_144) (fun _ h9 => h9) rfl d_Li_isPiece_15 ?_
  obtain ⟨z2, hz2, hf⟩ := obn hf
  refine x_V (As := [.int z_periods]) (rest := [.ref z_upTo_a]) (wc := [(z, .inr (4, [.ref z_sums_a, .ref z_from_a, .ref z_upTo_a, .int z_periods])), (z_sums_a, .inl (cy 0, 13, .inl z_sums)), (z_from_a, .inr (1, [.int z1.1, .int z1.2])), (z_upTo_a, .inr (1, [.int z_upTo_upper, .int z_upTo_lower]))]) (wr := []) (t_Li_leastSum l G cy kz N0  z z_periods z_sums_a z_sums z_from_a z1.1 z1.2 z_upTo_a z_upTo_upper z_upTo_lower z_periods z2 hz2 (fun w => w = [(z, .inr (4, [.ref z_sums_a, .ref z_from_a, .ref z_upTo_a, .int z_periods])), (z_sums_a, .inl (cy 0, 13, .inl z_sums)), (z_from_a, .inr (1, [.int z1.1, .int z1.2])), (z_upTo_a, .inr (1, [.int z_upTo_upper, .int z_upTo_lower]))]) rfl) hx hb hml hown hB hE hN hNA m_430 m_418 m_419 m_5 m_420 hdV_Li_leastSum ⟨Nat.le_of_ble_eq_true rfl, Nat.le_of_ble_eq_true rfl, Nat.le_of_ble_eq_true rfl, Nat.le_of_ble_eq_true rfl⟩ hP hD hS hA 0 4 rfl rfl rfl [0, 1, 2, 3] [] rfl rfl (by decide) (by decide) hl.1 rfl (Nat.le_of_ble_eq_true rfl) d_Li_isPiece_18 (fun _ H locs hw hP hD hS => ?_)
  subst hw
  replace hP : va_P G classes [(z, .inr (4, [.ref z_sums_a, .ref z_from_a, .ref z_upTo_a, .int z_periods])), (z_sums_a, .inl (cy 0, 13, .inl z_sums)), (z_from_a, .inr (1, [.int z1.1, .int z1.2])), (z_upTo_a, .inr (1, [.int z_upTo_upper, .int z_upTo_lower]))] H := hP.sub [0, 1, 2, 3] rfl
  replace hD : va_D A [(z, .inr (4, [.ref z_sums_a, .ref z_from_a, .ref z_upTo_a, .int z_periods])), (z_sums_a, .inl (cy 0, 13, .inl z_sums)), (z_from_a, .inr (1, [.int z1.1, .int z1.2])), (z_upTo_a, .inr (1, [.int z_upTo_upper, .int z_upTo_lower]))] := hD.sub [0, 1, 2, 3] (by decide) rfl
  refine lv_aload_n hx hb d_Li_isPiece_21 rfl (lv_at hl 0 rfl) ?_
  refine va_get (D := G) (ci := 4) (v := .int z_periods) (C := "YieldDesk$Lines") (T := F_Li) (N := 4) hx hb hB fi_Li hown hE.1 hP 0 rfl rfl 3 (by decide) (hB _ m_144) (fun _ h9 => h9) rfl d_Li_isPiece_22 ?_
  obtain ⟨z3, hz3, hf⟩ := obn hf
  refine x_V (As := [.int z2, .int z_periods]) (rest := []) (wc := [(z_upTo_a, .inr (1, [.int z_upTo_upper, .int z_upTo_lower]))]) (wr := [(z, .inr (4, [.ref z_sums_a, .ref z_from_a, .ref z_upTo_a, .int z_periods])), (z_sums_a, .inl (cy 0, 13, .inl z_sums)), (z_from_a, .inr (1, [.int z1.1, .int z1.2]))]) (t_Fr_become l G cy kz N0  z_upTo_a z_upTo_upper z_upTo_lower z2 z_periods z3 hz3 (fun w => w = [(z_upTo_a, .inr (1, [.int z3.1, .int z3.2]))]) rfl) hx hb hml hown hB hE hN hNA m_443 m_444 m_445 m_6 m_446 hdV_Fr_become ⟨Nat.le_of_ble_eq_true rfl, Nat.le_of_ble_eq_true rfl, Nat.le_of_ble_eq_true rfl, Nat.le_of_ble_eq_true rfl⟩ hP hD hS hA 3 1 rfl rfl rfl [3] [0, 1, 2] rfl rfl (by decide) (by decide) hl.1 rfl (Nat.le_of_ble_eq_true rfl) d_Li_isPiece_25 (fun _ H locs hw hP hD hS => ?_)
  subst hw
  replace hP : va_P G classes [(z, .inr (4, [.ref z_sums_a, .ref z_from_a, .ref z_upTo_a, .int z_periods])), (z_sums_a, .inl (cy 0, 13, .inl z_sums)), (z_from_a, .inr (1, [.int z1.1, .int z1.2])), (z_upTo_a, .inr (1, [.int z3.1, .int z3.2]))] H := hP.sub [0, 1, 2, 3] rfl
  replace hD : va_D A [(z, .inr (4, [.ref z_sums_a, .ref z_from_a, .ref z_upTo_a, .int z_periods])), (z_sums_a, .inl (cy 0, 13, .inl z_sums)), (z_from_a, .inr (1, [.int z1.1, .int z1.2])), (z_upTo_a, .inr (1, [.int z3.1, .int z3.2]))] := hD.sub [0, 1, 2, 3] (by decide) rfl
  refine lv_iconst (v := (0 : Int32)) hx hb d_Li_isPiece_28 (by decide) ?_
  refine lv_istore_n (lv' := [(2, .int (0 : Int32)), (0, .ref z), (1, .int p0)]) hx hb d_Li_isPiece_29 rfl hl (by decide) rfl (fun ls hl => ?_)
  obtain ⟨z7, hz7, hf⟩ := obn hf
  have K4 : ∀ (H : Heap) (locs : List Loc), va_P G classes [(z, .inr (4, [.ref z_sums_a, .ref z_from_a, .ref z_upTo_a, .int z_periods])), (z_sums_a, .inl (cy 0, 13, .inl z_sums)), (z_from_a, .inr (1, [.int z7.2.1, .int z7.2.2])), (z_upTo_a, .inr (1, [.int z3.1, .int z3.2]))] H → va_D A [(z, .inr (4, [.ref z_sums_a, .ref z_from_a, .ref z_upTo_a, .int z_periods])), (z_sums_a, .inl (cy 0, 13, .inl z_sums)), (z_from_a, .inr (1, [.int z7.2.1, .int z7.2.2])), (z_upTo_a, .inr (1, [.int z3.1, .int z3.2]))] → va_S A s.heap H locs → ∀ (ls : Array Slot), lv_has ls 3 [(0, .ref z), (1, .int p0), (2, .int z7.1)] → W p l e (RM 3 0 0) s m ([.ref z, .int p0] : List Value).toArray below meth c H locs 0 0 (MQ below (CQ G (some (.int out.1)) Bp A) ([.ref z, .int p0] : List Value).toArray s 0 0 A) (F0 m 62 ls []) := by
    intro H locs hP hD hS ls hl
    refine lv_iload_n hx hb d_Li_isPiece_62 rfl (lv_at hl 1 rfl) ?_
    refine lv_iconst (v := (1 : Int32)) hx hb d_Li_isPiece_63 (by decide) ?_
    refine lv_iadd hx hb d_Li_isPiece_64 ?_
    refine lv_istore_n (lv' := [(2, .int (p0 + (1 : Int32))), (0, .ref z), (1, .int p0)]) hx hb d_Li_isPiece_65 rfl hl (by decide) rfl (fun ls hl => ?_)
    obtain ⟨z11, hz11, hf⟩ := obn hf
    have K8 : ∀ (H : Heap) (locs : List Loc), va_P G classes [(z, .inr (4, [.ref z_sums_a, .ref z_from_a, .ref z_upTo_a, .int z_periods])), (z_sums_a, .inl (cy 0, 13, .inl z_sums)), (z_from_a, .inr (1, [.int z7.2.1, .int z7.2.2])), (z_upTo_a, .inr (1, [.int z11.2.1, .int z11.2.2]))] H → va_D A [(z, .inr (4, [.ref z_sums_a, .ref z_from_a, .ref z_upTo_a, .int z_periods])), (z_sums_a, .inl (cy 0, 13, .inl z_sums)), (z_from_a, .inr (1, [.int z7.2.1, .int z7.2.2])), (z_upTo_a, .inr (1, [.int z11.2.1, .int z11.2.2]))] → va_S A s.heap H locs → ∀ (ls : Array Slot), lv_has ls 3 [(0, .ref z), (1, .int p0), (2, .int z11.1)] → W p l e (RM 3 0 0) s m ([.ref z, .int p0] : List Value).toArray below meth c H locs 0 0 (MQ below (CQ G (some (.int out.1)) Bp A) ([.ref z, .int p0] : List Value).toArray s 0 0 A) (F0 m 101 ls []) := by
      intro H locs hP hD hS ls hl
      refine lv_aload_n hx hb d_Li_isPiece_101 rfl (lv_at hl 0 rfl) ?_
      refine va_get (D := G) (ci := 4) (v := .ref z_from_a) (C := "YieldDesk$Lines") (T := F_Li) (N := 4) hx hb hB fi_Li hown hE.1 hP 0 rfl rfl 1 (by decide) (hB _ m_140) (fun _ h9 => h9) rfl d_Li_isPiece_102 ?_
      refine lv_aload_n hx hb d_Li_isPiece_105 rfl (lv_at hl 0 rfl) ?_
      refine va_get (D := G) (ci := 4) (v := .ref z_upTo_a) (C := "YieldDesk$Lines") (T := F_Li) (N := 4) hx hb hB fi_Li hown hE.1 hP 0 rfl rfl 2 (by decide) (hB _ m_142) (fun _ h9 => h9) rfl d_Li_isPiece_106 ?_
      obtain ⟨z12, hz12, hf⟩ := obn hf
      refine x_V (As := [.ref z_upTo_a]) (rest := []) (wc := [(z_from_a, .inr (1, [.int z7.2.1, .int z7.2.2])), (z_upTo_a, .inr (1, [.int z11.2.1, .int z11.2.2]))]) (wr := [(z, .inr (4, [.ref z_sums_a, .ref z_from_a, .ref z_upTo_a, .int z_periods])), (z_sums_a, .inl (cy 0, 13, .inl z_sums))]) (t_Fr_isBelow l G cy kz N0  z_from_a z7.2.1 z7.2.2 z_upTo_a z11.2.1 z11.2.2 z12 hz12 (fun w => w = [(z_from_a, .inr (1, [.int z7.2.1, .int z7.2.2])), (z_upTo_a, .inr (1, [.int z11.2.1, .int z11.2.2]))]) rfl) hx hb hml hown hB hE hN hNA m_476 m_477 m_478 m_6 m_479 hdV_Fr_isBelow ⟨Nat.le_of_ble_eq_true rfl, Nat.le_of_ble_eq_true rfl, Nat.le_of_ble_eq_true rfl, Nat.le_of_ble_eq_true rfl⟩ hP hD hS hA 2 1 rfl rfl rfl [2, 3] [0, 1] rfl rfl (by decide) (by decide) hl.1 rfl (Nat.le_of_ble_eq_true rfl) d_Li_isPiece_109 (fun _ H locs hw hP hD hS => ?_)
      subst hw
      replace hP : va_P G classes [(z, .inr (4, [.ref z_sums_a, .ref z_from_a, .ref z_upTo_a, .int z_periods])), (z_sums_a, .inl (cy 0, 13, .inl z_sums)), (z_from_a, .inr (1, [.int z7.2.1, .int z7.2.2])), (z_upTo_a, .inr (1, [.int z11.2.1, .int z11.2.2]))] H := hP.sub [0, 1, 2, 3] rfl
      replace hD : va_D A [(z, .inr (4, [.ref z_sums_a, .ref z_from_a, .ref z_upTo_a, .int z_periods])), (z_sums_a, .inl (cy 0, 13, .inl z_sums)), (z_from_a, .inr (1, [.int z7.2.1, .int z7.2.2])), (z_upTo_a, .inr (1, [.int z11.2.1, .int z11.2.2]))] := hD.sub [0, 1, 2, 3] (by decide) rfl
      obtain ⟨hg13, hf⟩ := gdn hf
      have hg13n : narrow .boolean (.int z12) = .int z12 := by rcases Decidable.not_not.mp hg13 with q | q <;> rw [q] <;> rfl
      obtain rfl := Option.some.inj hf
      exact W.zret hx hb hr hg13n (x_ret hP hD hS hBp) hS.2.2 d_Li_isPiece_112
    clear hf
    have L10 : ∀ (n : Nat) (i2_66 : Int32) (z_upTo_upper_66 : Int32) (z_upTo_lower_66 : Int32), f_Li_isPiece_L66 z_periods z_sums p0 n i2_66 z_upTo_upper_66 z_upTo_lower_66 = some z11 → ∀ (H : Heap) (locs : List Loc), va_P G classes [(z, .inr (4, [.ref z_sums_a, .ref z_from_a, .ref z_upTo_a, .int z_periods])), (z_sums_a, .inl (cy 0, 13, .inl z_sums)), (z_from_a, .inr (1, [.int z7.2.1, .int z7.2.2])), (z_upTo_a, .inr (1, [.int z_upTo_upper_66, .int z_upTo_lower_66]))] H → va_D A [(z, .inr (4, [.ref z_sums_a, .ref z_from_a, .ref z_upTo_a, .int z_periods])), (z_sums_a, .inl (cy 0, 13, .inl z_sums)), (z_from_a, .inr (1, [.int z7.2.1, .int z7.2.2])), (z_upTo_a, .inr (1, [.int z_upTo_upper_66, .int z_upTo_lower_66]))] → va_S A s.heap H locs → ∀ (ls : Array Slot), lv_has ls 3 [(0, .ref z), (1, .int p0), (2, .int i2_66)] → W p l e (RM 3 0 0) s m ([.ref z, .int p0] : List Value).toArray below meth c H locs 0 0 (MQ below (CQ G (some (.int out.1)) Bp A) ([.ref z, .int p0] : List Value).toArray s 0 0 A) (F0 m 66 ls []) := by
      intro n
      induction n with
      | zero => intro i2_66 z_upTo_upper_66 z_upTo_lower_66 hf; exact absurd ((f_Li_isPiece_L66_z z_periods z_sums p0 i2_66 z_upTo_upper_66 z_upTo_lower_66).symm.trans hf) (by intro h; cases h)
      | succ n ih =>
        intro i2_66 z_upTo_upper_66 z_upTo_lower_66 hf H locs hP hD hS ls hl
        replace hf := (f_Li_isPiece_L66_s z_periods z_sums p0 n i2_66 z_upTo_upper_66 z_upTo_lower_66).symm.trans hf
        refine lv_iload_n hx hb d_Li_isPiece_66 rfl (lv_at hl 2 rfl) ?_
        refine lv_aload_n hx hb d_Li_isPiece_67 rfl (lv_at hl 0 rfl) ?_
        refine va_get (D := G) (ci := 4) (v := .int z_periods) (C := "YieldDesk$Lines") (T := F_Li) (N := 4) hx hb hB fi_Li hown hE.1 hP 0 rfl rfl 3 (by decide) (hB _ m_144) (fun _ h9 => h9) rfl d_Li_isPiece_68 ?_
        refine lv_icmp_gt (tgt := 101) hx hb d_Li_isPiece_71 (by decide) (fun hc14 => ?_) (fun hc14 => ?_)
        · replace hf := iteP hc14 hf
          obtain rfl := Option.some.inj hf
          exact K8 _ _ hP hD hS _ (lv_sub hl [0, 1, 2] rfl)
        · replace hf := iteN hc14 hf
          refine lv_aload_n hx hb d_Li_isPiece_74 rfl (lv_at hl 0 rfl) ?_
          refine va_get (D := G) (ci := 4) (v := .ref z_upTo_a) (C := "YieldDesk$Lines") (T := F_Li) (N := 4) hx hb hB fi_Li hown hE.1 hP 0 rfl rfl 2 (by decide) (hB _ m_142) (fun _ h9 => h9) rfl d_Li_isPiece_75 ?_
          refine lv_aload_n hx hb d_Li_isPiece_78 rfl (lv_at hl 0 rfl) ?_
          refine lv_iload_n hx hb d_Li_isPiece_79 rfl (lv_at hl 2 rfl) ?_
          obtain ⟨z15, hz15, hf⟩ := obn hf
          refine x_V (As := [.int i2_66]) (rest := [.ref z_upTo_a]) (wc := [(z, .inr (4, [.ref z_sums_a, .ref z_from_a, .ref z_upTo_a, .int z_periods])), (z_sums_a, .inl (cy 0, 13, .inl z_sums)), (z_from_a, .inr (1, [.int z7.2.1, .int z7.2.2])), (z_upTo_a, .inr (1, [.int z_upTo_upper_66, .int z_upTo_lower_66]))]) (wr := []) (t_Li_leastSum l G cy kz N0  z z_periods z_sums_a z_sums z_from_a z7.2.1 z7.2.2 z_upTo_a z_upTo_upper_66 z_upTo_lower_66 i2_66 z15 hz15 (fun w => w = [(z, .inr (4, [.ref z_sums_a, .ref z_from_a, .ref z_upTo_a, .int z_periods])), (z_sums_a, .inl (cy 0, 13, .inl z_sums)), (z_from_a, .inr (1, [.int z7.2.1, .int z7.2.2])), (z_upTo_a, .inr (1, [.int z_upTo_upper_66, .int z_upTo_lower_66]))]) rfl) hx hb hml hown hB hE hN hNA m_430 m_418 m_419 m_5 m_420 hdV_Li_leastSum ⟨Nat.le_of_ble_eq_true rfl, Nat.le_of_ble_eq_true rfl, Nat.le_of_ble_eq_true rfl, Nat.le_of_ble_eq_true rfl⟩ hP hD hS hA 0 4 rfl rfl rfl [0, 1, 2, 3] [] rfl rfl (by decide) (by decide) hl.1 rfl (Nat.le_of_ble_eq_true rfl) d_Li_isPiece_80 (fun _ H locs hw hP hD hS => ?_)
          subst hw
          replace hP : va_P G classes [(z, .inr (4, [.ref z_sums_a, .ref z_from_a, .ref z_upTo_a, .int z_periods])), (z_sums_a, .inl (cy 0, 13, .inl z_sums)), (z_from_a, .inr (1, [.int z7.2.1, .int z7.2.2])), (z_upTo_a, .inr (1, [.int z_upTo_upper_66, .int z_upTo_lower_66]))] H := hP.sub [0, 1, 2, 3] rfl
          replace hD : va_D A [(z, .inr (4, [.ref z_sums_a, .ref z_from_a, .ref z_upTo_a, .int z_periods])), (z_sums_a, .inl (cy 0, 13, .inl z_sums)), (z_from_a, .inr (1, [.int z7.2.1, .int z7.2.2])), (z_upTo_a, .inr (1, [.int z_upTo_upper_66, .int z_upTo_lower_66]))] := hD.sub [0, 1, 2, 3] (by decide) rfl
          refine lv_aload_n hx hb d_Li_isPiece_83 rfl (lv_at hl 0 rfl) ?_
          refine lv_iload_n hx hb d_Li_isPiece_84 rfl (lv_at hl 1 rfl) ?_
          obtain ⟨z16, hz16, hf⟩ := obn hf
          refine x_V (As := [.int p0]) (rest := [.int z15, .ref z_upTo_a]) (wc := [(z, .inr (4, [.ref z_sums_a, .ref z_from_a, .ref z_upTo_a, .int z_periods])), (z_sums_a, .inl (cy 0, 13, .inl z_sums)), (z_from_a, .inr (1, [.int z7.2.1, .int z7.2.2])), (z_upTo_a, .inr (1, [.int z_upTo_upper_66, .int z_upTo_lower_66]))]) (wr := []) (t_Li_leastSum l G cy kz N0  z z_periods z_sums_a z_sums z_from_a z7.2.1 z7.2.2 z_upTo_a z_upTo_upper_66 z_upTo_lower_66 p0 z16 hz16 (fun w => w = [(z, .inr (4, [.ref z_sums_a, .ref z_from_a, .ref z_upTo_a, .int z_periods])), (z_sums_a, .inl (cy 0, 13, .inl z_sums)), (z_from_a, .inr (1, [.int z7.2.1, .int z7.2.2])), (z_upTo_a, .inr (1, [.int z_upTo_upper_66, .int z_upTo_lower_66]))]) rfl) hx hb hml hown hB hE hN hNA m_430 m_418 m_419 m_5 m_420 hdV_Li_leastSum ⟨Nat.le_of_ble_eq_true rfl, Nat.le_of_ble_eq_true rfl, Nat.le_of_ble_eq_true rfl, Nat.le_of_ble_eq_true rfl⟩ hP hD hS hA 0 4 rfl rfl rfl [0, 1, 2, 3] [] rfl rfl (by decide) (by decide) hl.1 rfl (Nat.le_of_ble_eq_true rfl) d_Li_isPiece_85 (fun _ H locs hw hP hD hS => ?_)
          subst hw
          replace hP : va_P G classes [(z, .inr (4, [.ref z_sums_a, .ref z_from_a, .ref z_upTo_a, .int z_periods])), (z_sums_a, .inl (cy 0, 13, .inl z_sums)), (z_from_a, .inr (1, [.int z7.2.1, .int z7.2.2])), (z_upTo_a, .inr (1, [.int z_upTo_upper_66, .int z_upTo_lower_66]))] H := hP.sub [0, 1, 2, 3] rfl
          replace hD : va_D A [(z, .inr (4, [.ref z_sums_a, .ref z_from_a, .ref z_upTo_a, .int z_periods])), (z_sums_a, .inl (cy 0, 13, .inl z_sums)), (z_from_a, .inr (1, [.int z7.2.1, .int z7.2.2])), (z_upTo_a, .inr (1, [.int z_upTo_upper_66, .int z_upTo_lower_66]))] := hD.sub [0, 1, 2, 3] (by decide) rfl
          refine lv_isub hx hb d_Li_isPiece_88 ?_
          refine lv_iload_n hx hb d_Li_isPiece_89 rfl (lv_at hl 2 rfl) ?_
          refine lv_iload_n hx hb d_Li_isPiece_90 rfl (lv_at hl 1 rfl) ?_
          refine lv_isub hx hb d_Li_isPiece_91 ?_
          obtain ⟨z17, hz17, hf⟩ := obn hf
          refine x_V (As := [.int (z15 - z16), .int (i2_66 - p0)]) (rest := []) (wc := [(z_upTo_a, .inr (1, [.int z_upTo_upper_66, .int z_upTo_lower_66]))]) (wr := [(z, .inr (4, [.ref z_sums_a, .ref z_from_a, .ref z_upTo_a, .int z_periods])), (z_sums_a, .inl (cy 0, 13, .inl z_sums)), (z_from_a, .inr (1, [.int z7.2.1, .int z7.2.2]))]) (t_Fr_lowerTo l G cy kz N0  z_upTo_a z_upTo_upper_66 z_upTo_lower_66 (z15 - z16) (i2_66 - p0) z17 hz17 (fun w => w = [(z_upTo_a, .inr (1, [.int z17.1, .int z17.2]))]) rfl) hx hb hml hown hB hE hN hNA m_448 m_449 m_450 m_6 m_451 hdV_Fr_lowerTo ⟨Nat.le_of_ble_eq_true rfl, Nat.le_of_ble_eq_true rfl, Nat.le_of_ble_eq_true rfl, Nat.le_of_ble_eq_true rfl⟩ hP hD hS hA 3 1 rfl rfl rfl [3] [0, 1, 2] rfl rfl (by decide) (by decide) hl.1 rfl (Nat.le_of_ble_eq_true rfl) d_Li_isPiece_92 (fun _ H locs hw hP hD hS => ?_)
          subst hw
          replace hP : va_P G classes [(z, .inr (4, [.ref z_sums_a, .ref z_from_a, .ref z_upTo_a, .int z_periods])), (z_sums_a, .inl (cy 0, 13, .inl z_sums)), (z_from_a, .inr (1, [.int z7.2.1, .int z7.2.2])), (z_upTo_a, .inr (1, [.int z17.1, .int z17.2]))] H := hP.sub [0, 1, 2, 3] rfl
          replace hD : va_D A [(z, .inr (4, [.ref z_sums_a, .ref z_from_a, .ref z_upTo_a, .int z_periods])), (z_sums_a, .inl (cy 0, 13, .inl z_sums)), (z_from_a, .inr (1, [.int z7.2.1, .int z7.2.2])), (z_upTo_a, .inr (1, [.int z17.1, .int z17.2]))] := hD.sub [0, 1, 2, 3] (by decide) rfl
          refine lv_iinc (v := (i2_66 + (1 : Int32))) (lv' := [(2, .int (i2_66 + (1 : Int32))), (0, .ref z), (1, .int p0)]) hx hb d_Li_isPiece_95 hl (k := 2) rfl rfl (by decide) rfl (fun ls hl => ?_)
          refine lv_goto (tgt := 66) hx hb d_Li_isPiece_98 (by decide) ?_
          exact ih (i2_66 + (1 : Int32)) z17.1 z17.2 hf _ _ hP hD hS _ (lv_sub hl [1, 2, 0] rfl)
    exact L10 FU (p0 + (1 : Int32)) z3.1 z3.2 hz11 _ _ hP hD hS _ (lv_sub hl [1, 2, 0] rfl)
  clear hf
  have L6 : ∀ (n : Nat) (i2_30 : Int32) (z_from_upper_30 : Int32) (z_from_lower_30 : Int32), f_Li_isPiece_L30 z_sums p0 n i2_30 z_from_upper_30 z_from_lower_30 = some z7 → ∀ (H : Heap) (locs : List Loc), va_P G classes [(z, .inr (4, [.ref z_sums_a, .ref z_from_a, .ref z_upTo_a, .int z_periods])), (z_sums_a, .inl (cy 0, 13, .inl z_sums)), (z_from_a, .inr (1, [.int z_from_upper_30, .int z_from_lower_30])), (z_upTo_a, .inr (1, [.int z3.1, .int z3.2]))] H → va_D A [(z, .inr (4, [.ref z_sums_a, .ref z_from_a, .ref z_upTo_a, .int z_periods])), (z_sums_a, .inl (cy 0, 13, .inl z_sums)), (z_from_a, .inr (1, [.int z_from_upper_30, .int z_from_lower_30])), (z_upTo_a, .inr (1, [.int z3.1, .int z3.2]))] → va_S A s.heap H locs → ∀ (ls : Array Slot), lv_has ls 3 [(0, .ref z), (1, .int p0), (2, .int i2_30)] → W p l e (RM 3 0 0) s m ([.ref z, .int p0] : List Value).toArray below meth c H locs 0 0 (MQ below (CQ G (some (.int out.1)) Bp A) ([.ref z, .int p0] : List Value).toArray s 0 0 A) (F0 m 30 ls []) := by
    intro n
    induction n with
    | zero => intro i2_30 z_from_upper_30 z_from_lower_30 hf; exact absurd ((f_Li_isPiece_L30_z z_sums p0 i2_30 z_from_upper_30 z_from_lower_30).symm.trans hf) (by intro h; cases h)
    | succ n ih =>
      intro i2_30 z_from_upper_30 z_from_lower_30 hf H locs hP hD hS ls hl
      replace hf := (f_Li_isPiece_L30_s z_sums p0 n i2_30 z_from_upper_30 z_from_lower_30).symm.trans hf
      refine lv_iload_n hx hb d_Li_isPiece_30 rfl (lv_at hl 2 rfl) ?_
      refine lv_iload_n hx hb d_Li_isPiece_31 rfl (lv_at hl 1 rfl) ?_
      refine lv_icmp_ge (tgt := 62) hx hb d_Li_isPiece_32 (by decide) (fun hc18 => ?_) (fun hc18 => ?_)
      · replace hf := iteP hc18 hf
        obtain rfl := Option.some.inj hf
        exact K4 _ _ hP hD hS _ (lv_sub hl [0, 1, 2] rfl)
      · replace hf := iteN hc18 hf
        refine lv_aload_n hx hb d_Li_isPiece_35 rfl (lv_at hl 0 rfl) ?_
        refine va_get (D := G) (ci := 4) (v := .ref z_from_a) (C := "YieldDesk$Lines") (T := F_Li) (N := 4) hx hb hB fi_Li hown hE.1 hP 0 rfl rfl 1 (by decide) (hB _ m_140) (fun _ h9 => h9) rfl d_Li_isPiece_36 ?_
        refine lv_aload_n hx hb d_Li_isPiece_39 rfl (lv_at hl 0 rfl) ?_
        refine lv_iload_n hx hb d_Li_isPiece_40 rfl (lv_at hl 1 rfl) ?_
        obtain ⟨z19, hz19, hf⟩ := obn hf
        refine x_V (As := [.int p0]) (rest := [.ref z_from_a]) (wc := [(z, .inr (4, [.ref z_sums_a, .ref z_from_a, .ref z_upTo_a, .int z_periods])), (z_sums_a, .inl (cy 0, 13, .inl z_sums)), (z_from_a, .inr (1, [.int z_from_upper_30, .int z_from_lower_30])), (z_upTo_a, .inr (1, [.int z3.1, .int z3.2]))]) (wr := []) (t_Li_leastSum l G cy kz N0  z z_periods z_sums_a z_sums z_from_a z_from_upper_30 z_from_lower_30 z_upTo_a z3.1 z3.2 p0 z19 hz19 (fun w => w = [(z, .inr (4, [.ref z_sums_a, .ref z_from_a, .ref z_upTo_a, .int z_periods])), (z_sums_a, .inl (cy 0, 13, .inl z_sums)), (z_from_a, .inr (1, [.int z_from_upper_30, .int z_from_lower_30])), (z_upTo_a, .inr (1, [.int z3.1, .int z3.2]))]) rfl) hx hb hml hown hB hE hN hNA m_430 m_418 m_419 m_5 m_420 hdV_Li_leastSum ⟨Nat.le_of_ble_eq_true rfl, Nat.le_of_ble_eq_true rfl, Nat.le_of_ble_eq_true rfl, Nat.le_of_ble_eq_true rfl⟩ hP hD hS hA 0 4 rfl rfl rfl [0, 1, 2, 3] [] rfl rfl (by decide) (by decide) hl.1 rfl (Nat.le_of_ble_eq_true rfl) d_Li_isPiece_41 (fun _ H locs hw hP hD hS => ?_)
        subst hw
        replace hP : va_P G classes [(z, .inr (4, [.ref z_sums_a, .ref z_from_a, .ref z_upTo_a, .int z_periods])), (z_sums_a, .inl (cy 0, 13, .inl z_sums)), (z_from_a, .inr (1, [.int z_from_upper_30, .int z_from_lower_30])), (z_upTo_a, .inr (1, [.int z3.1, .int z3.2]))] H := hP.sub [0, 1, 2, 3] rfl
        replace hD : va_D A [(z, .inr (4, [.ref z_sums_a, .ref z_from_a, .ref z_upTo_a, .int z_periods])), (z_sums_a, .inl (cy 0, 13, .inl z_sums)), (z_from_a, .inr (1, [.int z_from_upper_30, .int z_from_lower_30])), (z_upTo_a, .inr (1, [.int z3.1, .int z3.2]))] := hD.sub [0, 1, 2, 3] (by decide) rfl
        refine lv_aload_n hx hb d_Li_isPiece_44 rfl (lv_at hl 0 rfl) ?_
        refine lv_iload_n hx hb d_Li_isPiece_45 rfl (lv_at hl 2 rfl) ?_
        obtain ⟨z20, hz20, hf⟩ := obn hf
        refine x_V (As := [.int i2_30]) (rest := [.int z19, .ref z_from_a]) (wc := [(z, .inr (4, [.ref z_sums_a, .ref z_from_a, .ref z_upTo_a, .int z_periods])), (z_sums_a, .inl (cy 0, 13, .inl z_sums)), (z_from_a, .inr (1, [.int z_from_upper_30, .int z_from_lower_30])), (z_upTo_a, .inr (1, [.int z3.1, .int z3.2]))]) (wr := []) (t_Li_leastSum l G cy kz N0  z z_periods z_sums_a z_sums z_from_a z_from_upper_30 z_from_lower_30 z_upTo_a z3.1 z3.2 i2_30 z20 hz20 (fun w => w = [(z, .inr (4, [.ref z_sums_a, .ref z_from_a, .ref z_upTo_a, .int z_periods])), (z_sums_a, .inl (cy 0, 13, .inl z_sums)), (z_from_a, .inr (1, [.int z_from_upper_30, .int z_from_lower_30])), (z_upTo_a, .inr (1, [.int z3.1, .int z3.2]))]) rfl) hx hb hml hown hB hE hN hNA m_430 m_418 m_419 m_5 m_420 hdV_Li_leastSum ⟨Nat.le_of_ble_eq_true rfl, Nat.le_of_ble_eq_true rfl, Nat.le_of_ble_eq_true rfl, Nat.le_of_ble_eq_true rfl⟩ hP hD hS hA 0 4 rfl rfl rfl [0, 1, 2, 3] [] rfl rfl (by decide) (by decide) hl.1 rfl (Nat.le_of_ble_eq_true rfl) d_Li_isPiece_46 (fun _ H locs hw hP hD hS => ?_)
        subst hw
        replace hP : va_P G classes [(z, .inr (4, [.ref z_sums_a, .ref z_from_a, .ref z_upTo_a, .int z_periods])), (z_sums_a, .inl (cy 0, 13, .inl z_sums)), (z_from_a, .inr (1, [.int z_from_upper_30, .int z_from_lower_30])), (z_upTo_a, .inr (1, [.int z3.1, .int z3.2]))] H := hP.sub [0, 1, 2, 3] rfl
        replace hD : va_D A [(z, .inr (4, [.ref z_sums_a, .ref z_from_a, .ref z_upTo_a, .int z_periods])), (z_sums_a, .inl (cy 0, 13, .inl z_sums)), (z_from_a, .inr (1, [.int z_from_upper_30, .int z_from_lower_30])), (z_upTo_a, .inr (1, [.int z3.1, .int z3.2]))] := hD.sub [0, 1, 2, 3] (by decide) rfl
        refine lv_isub hx hb d_Li_isPiece_49 ?_
        refine lv_iload_n hx hb d_Li_isPiece_50 rfl (lv_at hl 1 rfl) ?_
        refine lv_iload_n hx hb d_Li_isPiece_51 rfl (lv_at hl 2 rfl) ?_
        refine lv_isub hx hb d_Li_isPiece_52 ?_
        obtain ⟨z21, hz21, hf⟩ := obn hf
        refine x_V (As := [.int (z19 - z20), .int (p0 - i2_30)]) (rest := []) (wc := [(z_from_a, .inr (1, [.int z_from_upper_30, .int z_from_lower_30]))]) (wr := [(z, .inr (4, [.ref z_sums_a, .ref z_from_a, .ref z_upTo_a, .int z_periods])), (z_sums_a, .inl (cy 0, 13, .inl z_sums)), (z_upTo_a, .inr (1, [.int z3.1, .int z3.2]))]) (t_Fr_raiseTo l G cy kz N0  z_from_a z_from_upper_30 z_from_lower_30 (z19 - z20) (p0 - i2_30) z21 hz21 (fun w => w = [(z_from_a, .inr (1, [.int z21.1, .int z21.2]))]) rfl) hx hb hml hown hB hE hN hNA m_472 m_473 m_474 m_6 m_475 hdV_Fr_raiseTo ⟨Nat.le_of_ble_eq_true rfl, Nat.le_of_ble_eq_true rfl, Nat.le_of_ble_eq_true rfl, Nat.le_of_ble_eq_true rfl⟩ hP hD hS hA 2 1 rfl rfl rfl [2] [0, 1, 3] rfl rfl (by decide) (by decide) hl.1 rfl (Nat.le_of_ble_eq_true rfl) d_Li_isPiece_53 (fun _ H locs hw hP hD hS => ?_)
        subst hw
        replace hP : va_P G classes [(z, .inr (4, [.ref z_sums_a, .ref z_from_a, .ref z_upTo_a, .int z_periods])), (z_sums_a, .inl (cy 0, 13, .inl z_sums)), (z_from_a, .inr (1, [.int z21.1, .int z21.2])), (z_upTo_a, .inr (1, [.int z3.1, .int z3.2]))] H := hP.sub [0, 1, 3, 2] rfl
        replace hD : va_D A [(z, .inr (4, [.ref z_sums_a, .ref z_from_a, .ref z_upTo_a, .int z_periods])), (z_sums_a, .inl (cy 0, 13, .inl z_sums)), (z_from_a, .inr (1, [.int z21.1, .int z21.2])), (z_upTo_a, .inr (1, [.int z3.1, .int z3.2]))] := hD.sub [0, 1, 3, 2] (by decide) rfl
        refine lv_iinc (v := (i2_30 + (1 : Int32))) (lv' := [(2, .int (i2_30 + (1 : Int32))), (0, .ref z), (1, .int p0)]) hx hb d_Li_isPiece_56 hl (k := 2) rfl rfl (by decide) rfl (fun ls hl => ?_)
        refine lv_goto (tgt := 30) hx hb d_Li_isPiece_59 (by decide) ?_
        exact ih (i2_30 + (1 : Int32)) z21.1 z21.2 hf _ _ hP hD hS _ (lv_sub hl [1, 2, 0] rfl)
  exact L6 FU (0 : Int32) z1.1 z1.2 hz7 _ _ hP hD hS _ (lv_sub hl [1, 2, 0] rfl)
set_option maxHeartbeats 4000000 in
set_option maxRecDepth 100000 in
theorem t_Li_pieces (l : Launch) (G : va_G) (cy : Nat → ClassId) (kz : Nat → Nat) (N0 : Nat) (z : Nat) (z_periods : Int32) (z_sums_a : Nat) (z_sums : Nat → Int32) (z_from_a : Nat) (z_from_upper : Int32) (z_from_lower : Int32) (z_upTo_a : Nat) (z_upTo_upper : Int32) (z_upTo_lower : Int32) (out : Int32 × Int32 × Int32 × Int32 × Int32) (h0 : f_Li_pieces z_periods z_sums z_from_upper z_from_lower z_upTo_upper z_upTo_lower = some out) (Bp : va_W → Prop) (hBp : Bp [(z, .inr (4, [.ref z_sums_a, .ref z_from_a, .ref z_upTo_a, .int z_periods])), (z_sums_a, .inl (cy 0, 13, .inl z_sums)), (z_from_a, .inr (1, [.int out.2.1, .int out.2.2.1])), (z_upTo_a, .inr (1, [.int out.2.2.2.1, .int out.2.2.2.2]))]) : CT l G cy kz N0 y_Li_pieces b_Li_pieces 3 (some .int) 4 0 0 [.ref z] [(z, .inr (4, [.ref z_sums_a, .ref z_from_a, .ref z_upTo_a, .int z_periods])), (z_sums_a, .inl (cy 0, 13, .inl z_sums)), (z_from_a, .inr (1, [.int z_from_upper, .int z_from_lower])), (z_upTo_a, .inr (1, [.int z_upTo_upper, .int z_upTo_lower]))] (some (.int out.1)) Bp := by
  refine CT.of (by decide) (Nat.le_of_ble_eq_true rfl) ?_
  intro p e s m below meth c A ls hx hb hr hml hB hown hlocks hnm hE hN hA hNA hP hD hS hl
  have hown : s.vm.findClass "YieldDesk$Lines" = some m.cls := hown
  have hl : lv_has ls 3 [(0, .ref z)] := hl
  have hf := h0
  unfold f_Li_pieces at hf
  refine lv_iconst (v := (0 : Int32)) hx hb d_Li_pieces_0 (by decide) ?_
  refine lv_istore_n (lv' := [(1, .int (0 : Int32)), (0, .ref z)]) hx hb d_Li_pieces_1 rfl hl (by decide) rfl (fun ls hl => ?_)
  refine lv_iconst (v := (0 : Int32)) hx hb d_Li_pieces_2 (by decide) ?_
  refine lv_istore_n (lv' := [(2, .int (0 : Int32)), (1, .int (0 : Int32)), (0, .ref z)]) hx hb d_Li_pieces_3 rfl hl (by decide) rfl (fun ls hl => ?_)
  obtain ⟨z4, hz4, hf⟩ := obn hf
  have K1 : ∀ (H : Heap) (locs : List Loc), va_P G classes [(z, .inr (4, [.ref z_sums_a, .ref z_from_a, .ref z_upTo_a, .int z_periods])), (z_sums_a, .inl (cy 0, 13, .inl z_sums)), (z_from_a, .inr (1, [.int z4.2.2.1, .int z4.2.2.2.1])), (z_upTo_a, .inr (1, [.int z4.2.2.2.2.1, .int z4.2.2.2.2.2]))] H → va_D A [(z, .inr (4, [.ref z_sums_a, .ref z_from_a, .ref z_upTo_a, .int z_periods])), (z_sums_a, .inl (cy 0, 13, .inl z_sums)), (z_from_a, .inr (1, [.int z4.2.2.1, .int z4.2.2.2.1])), (z_upTo_a, .inr (1, [.int z4.2.2.2.2.1, .int z4.2.2.2.2.2]))] → va_S A s.heap H locs → ∀ (ls : Array Slot), lv_has ls 3 [(0, .ref z), (1, .int z4.1), (2, .int z4.2.1)] → W p l e (RM 4 0 0) s m ([.ref z] : List Value).toArray below meth c H locs 0 0 (MQ below (CQ G (some (.int out.1)) Bp A) ([.ref z] : List Value).toArray s 0 0 A) (F0 m 29 ls []) := by
    intro H locs hP hD hS ls hl
    refine lv_iload_n hx hb d_Li_pieces_29 rfl (lv_at hl 1 rfl) ?_
    obtain rfl := Option.some.inj hf
    exact W.iret hx hb hr (x_ret hP hD hS hBp) hS.2.2 d_Li_pieces_30
  clear hf
  have L3 : ∀ (n : Nat) (i1_4 : Int32) (i2_4 : Int32) (z_from_upper_4 : Int32) (z_from_lower_4 : Int32) (z_upTo_upper_4 : Int32) (z_upTo_lower_4 : Int32), f_Li_pieces_L4 z_periods z_sums n i1_4 i2_4 z_from_upper_4 z_from_lower_4 z_upTo_upper_4 z_upTo_lower_4 = some z4 → ∀ (H : Heap) (locs : List Loc), va_P G classes [(z, .inr (4, [.ref z_sums_a, .ref z_from_a, .ref z_upTo_a, .int z_periods])), (z_sums_a, .inl (cy 0, 13, .inl z_sums)), (z_from_a, .inr (1, [.int z_from_upper_4, .int z_from_lower_4])), (z_upTo_a, .inr (1, [.int z_upTo_upper_4, .int z_upTo_lower_4]))] H → va_D A [(z, .inr (4, [.ref z_sums_a, .ref z_from_a, .ref z_upTo_a, .int z_periods])), (z_sums_a, .inl (cy 0, 13, .inl z_sums)), (z_from_a, .inr (1, [.int z_from_upper_4, .int z_from_lower_4])), (z_upTo_a, .inr (1, [.int z_upTo_upper_4, .int z_upTo_lower_4]))] → va_S A s.heap H locs → ∀ (ls : Array Slot), lv_has ls 3 [(0, .ref z), (1, .int i1_4), (2, .int i2_4)] → W p l e (RM 4 0 0) s m ([.ref z] : List Value).toArray below meth c H locs 0 0 (MQ below (CQ G (some (.int out.1)) Bp A) ([.ref z] : List Value).toArray s 0 0 A) (F0 m 4 ls []) := by
    intro n
    induction n with
    | zero => intro i1_4 i2_4 z_from_upper_4 z_from_lower_4 z_upTo_upper_4 z_upTo_lower_4 hf; exact absurd ((f_Li_pieces_L4_z z_periods z_sums i1_4 i2_4 z_from_upper_4 z_from_lower_4 z_upTo_upper_4 z_upTo_lower_4).symm.trans hf) (by intro h; cases h)
    | succ n ih =>
      intro i1_4 i2_4 z_from_upper_4 z_from_lower_4 z_upTo_upper_4 z_upTo_lower_4 hf H locs hP hD hS ls hl
      replace hf := (f_Li_pieces_L4_s z_periods z_sums n i1_4 i2_4 z_from_upper_4 z_from_lower_4 z_upTo_upper_4 z_upTo_lower_4).symm.trans hf
      refine lv_iload_n hx hb d_Li_pieces_4 rfl (lv_at hl 2 rfl) ?_
      refine lv_aload_n hx hb d_Li_pieces_5 rfl (lv_at hl 0 rfl) ?_
      refine va_get (D := G) (ci := 4) (v := .int z_periods) (C := "YieldDesk$Lines") (T := F_Li) (N := 4) hx hb hB fi_Li hown hE.1 hP 0 rfl rfl 3 (by decide) (hB _ m_144) (fun _ h9 => h9) rfl d_Li_pieces_6 ?_
      refine lv_icmp_gt (tgt := 29) hx hb d_Li_pieces_9 (by decide) (fun hc5 => ?_) (fun hc5 => ?_)
      · replace hf := iteP hc5 hf
        obtain rfl := Option.some.inj hf
        exact K1 _ _ hP hD hS _ (lv_sub hl [0, 1, 2] rfl)
      · replace hf := iteN hc5 hf
        refine lv_aload_n hx hb d_Li_pieces_12 rfl (lv_at hl 0 rfl) ?_
        refine lv_iload_n hx hb d_Li_pieces_13 rfl (lv_at hl 2 rfl) ?_
        obtain ⟨z6, hz6, hf⟩ := obn hf
        refine x_V (As := [.int i2_4]) (rest := []) (wc := [(z, .inr (4, [.ref z_sums_a, .ref z_from_a, .ref z_upTo_a, .int z_periods])), (z_sums_a, .inl (cy 0, 13, .inl z_sums)), (z_from_a, .inr (1, [.int z_from_upper_4, .int z_from_lower_4])), (z_upTo_a, .inr (1, [.int z_upTo_upper_4, .int z_upTo_lower_4]))]) (wr := []) (t_Li_isPiece l G cy kz N0  z z_periods z_sums_a z_sums z_from_a z_from_upper_4 z_from_lower_4 z_upTo_a z_upTo_upper_4 z_upTo_lower_4 i2_4 z6 hz6 (fun w => w = [(z, .inr (4, [.ref z_sums_a, .ref z_from_a, .ref z_upTo_a, .int z_periods])), (z_sums_a, .inl (cy 0, 13, .inl z_sums)), (z_from_a, .inr (1, [.int z6.2.1, .int z6.2.2.1])), (z_upTo_a, .inr (1, [.int z6.2.2.2.1, .int z6.2.2.2.2]))]) rfl) hx hb hml hown hB hE hN hNA m_468 m_470 mS_Li_isPiece m_5 m_471 hdV_Li_isPiece ⟨Nat.le_of_ble_eq_true rfl, Nat.le_of_ble_eq_true rfl, Nat.le_of_ble_eq_true rfl, Nat.le_of_ble_eq_true rfl⟩ hP hD hS hA 0 4 rfl rfl rfl [0, 1, 2, 3] [] rfl rfl (by decide) (by decide) hl.1 rfl (Nat.le_of_ble_eq_true rfl) d_Li_pieces_14 (fun _ H locs hw hP hD hS => ?_)
        subst hw
        replace hP : va_P G classes [(z, .inr (4, [.ref z_sums_a, .ref z_from_a, .ref z_upTo_a, .int z_periods])), (z_sums_a, .inl (cy 0, 13, .inl z_sums)), (z_from_a, .inr (1, [.int z6.2.1, .int z6.2.2.1])), (z_upTo_a, .inr (1, [.int z6.2.2.2.1, .int z6.2.2.2.2]))] H := hP.sub [0, 1, 2, 3] rfl
        replace hD : va_D A [(z, .inr (4, [.ref z_sums_a, .ref z_from_a, .ref z_upTo_a, .int z_periods])), (z_sums_a, .inl (cy 0, 13, .inl z_sums)), (z_from_a, .inr (1, [.int z6.2.1, .int z6.2.2.1])), (z_upTo_a, .inr (1, [.int z6.2.2.2.1, .int z6.2.2.2.2]))] := hD.sub [0, 1, 2, 3] (by decide) rfl
        refine lv_if_eq (tgt := 23) hx hb d_Li_pieces_17 (by decide) (fun hc7 => ?_) (fun hc7 => ?_)
        · replace hf := iteP hc7 hf
          refine lv_iinc (v := (i2_4 + (1 : Int32))) (lv' := [(2, .int (i2_4 + (1 : Int32))), (0, .ref z), (1, .int i1_4)]) hx hb d_Li_pieces_23 hl (k := 2) rfl rfl (by decide) rfl (fun ls hl => ?_)
          refine lv_goto (tgt := 4) hx hb d_Li_pieces_26 (by decide) ?_
          exact ih i1_4 (i2_4 + (1 : Int32)) z6.2.1 z6.2.2.1 z6.2.2.2.1 z6.2.2.2.2 hf _ _ hP hD hS _ (lv_sub hl [1, 2, 0] rfl)
        · replace hf := iteN hc7 hf
          refine lv_iinc (v := (i1_4 + (1 : Int32))) (lv' := [(1, .int (i1_4 + (1 : Int32))), (0, .ref z), (2, .int i2_4)]) hx hb d_Li_pieces_20 hl (k := 1) rfl rfl (by decide) rfl (fun ls hl => ?_)
          refine lv_iinc (v := (i2_4 + (1 : Int32))) (lv' := [(2, .int (i2_4 + (1 : Int32))), (1, .int (i1_4 + (1 : Int32))), (0, .ref z)]) hx hb d_Li_pieces_23 hl (k := 2) rfl rfl (by decide) rfl (fun ls hl => ?_)
          refine lv_goto (tgt := 4) hx hb d_Li_pieces_26 (by decide) ?_
          exact ih (i1_4 + (1 : Int32)) (i2_4 + (1 : Int32)) z6.2.1 z6.2.2.1 z6.2.2.2.1 z6.2.2.2.2 hf _ _ hP hD hS _ (lv_sub hl [2, 1, 0] rfl)
  exact L3 FU (0 : Int32) (0 : Int32) z_from_upper z_from_lower z_upTo_upper z_upTo_lower hz4 _ _ hP hD hS _ (lv_sub hl [2, 1, 0] rfl)
set_option maxHeartbeats 4000000 in
set_option maxRecDepth 100000 in
theorem t_Li_pieceAt (l : Launch) (G : va_G) (cy : Nat → ClassId) (kz : Nat → Nat) (N0 : Nat) (z : Nat) (z_periods : Int32) (z_sums_a : Nat) (z_sums : Nat → Int32) (z_from_a : Nat) (z_from_upper : Int32) (z_from_lower : Int32) (z_upTo_a : Nat) (z_upTo_upper : Int32) (z_upTo_lower : Int32) (p0 : Int32) (out : Int32 × Int32 × Int32 × Int32 × Int32) (h0 : f_Li_pieceAt z_periods z_sums z_from_upper z_from_lower z_upTo_upper z_upTo_lower p0 = some out) (Bp : va_W → Prop) (hBp : Bp [(z, .inr (4, [.ref z_sums_a, .ref z_from_a, .ref z_upTo_a, .int z_periods])), (z_sums_a, .inl (cy 0, 13, .inl z_sums)), (z_from_a, .inr (1, [.int out.2.1, .int out.2.2.1])), (z_upTo_a, .inr (1, [.int out.2.2.2.1, .int out.2.2.2.2]))]) : CT l G cy kz N0 y_Li_pieceAt b_Li_pieceAt 4 (some .int) 4 0 0 [.ref z, .int p0] [(z, .inr (4, [.ref z_sums_a, .ref z_from_a, .ref z_upTo_a, .int z_periods])), (z_sums_a, .inl (cy 0, 13, .inl z_sums)), (z_from_a, .inr (1, [.int z_from_upper, .int z_from_lower])), (z_upTo_a, .inr (1, [.int z_upTo_upper, .int z_upTo_lower]))] (some (.int out.1)) Bp := by
  refine CT.of (by decide) (Nat.le_of_ble_eq_true rfl) ?_
  intro p e s m below meth c A ls hx hb hr hml hB hown hlocks hnm hE hN hA hNA hP hD hS hl
  have hown : s.vm.findClass "YieldDesk$Lines" = some m.cls := hown
  have hl : lv_has ls 4 [(0, .ref z), (1, .int p0)] := hl
  have hf := h0
  unfold f_Li_pieceAt at hf
  refine lv_iconst (v := (0 : Int32)) hx hb d_Li_pieceAt_0 (by decide) ?_
  refine lv_istore_n (lv' := [(2, .int (0 : Int32)), (0, .ref z), (1, .int p0)]) hx hb d_Li_pieceAt_1 rfl hl (by decide) rfl (fun ls hl => ?_)
  refine lv_iconst (v := (0 : Int32)) hx hb d_Li_pieceAt_2 (by decide) ?_
  refine lv_istore_n (lv' := [(3, .int (0 : Int32)), (2, .int (0 : Int32)), (0, .ref z), (1, .int p0)]) hx hb d_Li_pieceAt_3 rfl hl (by decide) rfl (fun ls hl => ?_)
  obtain ⟨z4, hz4, hf⟩ := obn hf
  have K1 : ∀ x5, z4 = .inl x5 → ∀ (H : Heap) (locs : List Loc), va_P G classes [(z, .inr (4, [.ref z_sums_a, .ref z_from_a, .ref z_upTo_a, .int z_periods])), (z_sums_a, .inl (cy 0, 13, .inl z_sums)), (z_from_a, .inr (1, [.int x5.2.2.1, .int x5.2.2.2.1])), (z_upTo_a, .inr (1, [.int x5.2.2.2.2.1, .int x5.2.2.2.2.2]))] H → va_D A [(z, .inr (4, [.ref z_sums_a, .ref z_from_a, .ref z_upTo_a, .int z_periods])), (z_sums_a, .inl (cy 0, 13, .inl z_sums)), (z_from_a, .inr (1, [.int x5.2.2.1, .int x5.2.2.2.1])), (z_upTo_a, .inr (1, [.int x5.2.2.2.2.1, .int x5.2.2.2.2.2]))] → va_S A s.heap H locs → ∀ (ls : Array Slot), lv_has ls 4 [(0, .ref z), (1, .int p0), (2, .int x5.1), (3, .int x5.2.1)] → W p l e (RM 4 0 0) s m ([.ref z, .int p0] : List Value).toArray below meth c H locs 0 0 (MQ below (CQ G (some (.int out.1)) Bp A) ([.ref z, .int p0] : List Value).toArray s 0 0 A) (F0 m 36 ls []) := by
    intro x5 ez4 H locs hP hD hS ls hl
    subst ez4
    replace hf := sml hf
    refine lv_bipush (v := (-9 : Int32)) hx hb d_Li_pieceAt_36 (by decide) ?_
    obtain rfl := Option.some.inj hf
    exact W.iret hx hb hr (x_ret hP hD hS hBp) hS.2.2 d_Li_pieceAt_38
  have K2 : ∀ r, z4 = .inr r → some r = some out := by
    intro r ez4
    subst ez4
    exact smr hf
  clear hf
  have L3 : ∀ (n : Nat) (i2_4 : Int32) (i3_4 : Int32) (z_from_upper_4 : Int32) (z_from_lower_4 : Int32) (z_upTo_upper_4 : Int32) (z_upTo_lower_4 : Int32), f_Li_pieceAt_L4 z_periods z_sums p0 n i2_4 i3_4 z_from_upper_4 z_from_lower_4 z_upTo_upper_4 z_upTo_lower_4 = some z4 → ∀ (H : Heap) (locs : List Loc), va_P G classes [(z, .inr (4, [.ref z_sums_a, .ref z_from_a, .ref z_upTo_a, .int z_periods])), (z_sums_a, .inl (cy 0, 13, .inl z_sums)), (z_from_a, .inr (1, [.int z_from_upper_4, .int z_from_lower_4])), (z_upTo_a, .inr (1, [.int z_upTo_upper_4, .int z_upTo_lower_4]))] H → va_D A [(z, .inr (4, [.ref z_sums_a, .ref z_from_a, .ref z_upTo_a, .int z_periods])), (z_sums_a, .inl (cy 0, 13, .inl z_sums)), (z_from_a, .inr (1, [.int z_from_upper_4, .int z_from_lower_4])), (z_upTo_a, .inr (1, [.int z_upTo_upper_4, .int z_upTo_lower_4]))] → va_S A s.heap H locs → ∀ (ls : Array Slot), lv_has ls 4 [(0, .ref z), (1, .int p0), (2, .int i2_4), (3, .int i3_4)] → W p l e (RM 4 0 0) s m ([.ref z, .int p0] : List Value).toArray below meth c H locs 0 0 (MQ below (CQ G (some (.int out.1)) Bp A) ([.ref z, .int p0] : List Value).toArray s 0 0 A) (F0 m 4 ls []) := by
    intro n
    induction n with
    | zero => intro i2_4 i3_4 z_from_upper_4 z_from_lower_4 z_upTo_upper_4 z_upTo_lower_4 hf; exact absurd ((f_Li_pieceAt_L4_z z_periods z_sums p0 i2_4 i3_4 z_from_upper_4 z_from_lower_4 z_upTo_upper_4 z_upTo_lower_4).symm.trans hf) (by intro h; cases h)
    | succ n ih =>
      intro i2_4 i3_4 z_from_upper_4 z_from_lower_4 z_upTo_upper_4 z_upTo_lower_4 hf H locs hP hD hS ls hl
      replace hf := (f_Li_pieceAt_L4_s z_periods z_sums p0 n i2_4 i3_4 z_from_upper_4 z_from_lower_4 z_upTo_upper_4 z_upTo_lower_4).symm.trans hf
      refine lv_iload_n hx hb d_Li_pieceAt_4 rfl (lv_at hl 3 rfl) ?_
      refine lv_aload_n hx hb d_Li_pieceAt_5 rfl (lv_at hl 0 rfl) ?_
      refine va_get (D := G) (ci := 4) (v := .int z_periods) (C := "YieldDesk$Lines") (T := F_Li) (N := 4) hx hb hB fi_Li hown hE.1 hP 0 rfl rfl 3 (by decide) (hB _ m_144) (fun _ h9 => h9) rfl d_Li_pieceAt_6 ?_
      refine lv_icmp_gt (tgt := 36) hx hb d_Li_pieceAt_9 (by decide) (fun hc6 => ?_) (fun hc6 => ?_)
      · replace hf := iteP hc6 hf
        obtain rfl := Option.some.inj hf
        exact K1 _ rfl _ _ hP hD hS _ (lv_sub hl [0, 1, 2, 3] rfl)
      · replace hf := iteN hc6 hf
        refine lv_aload_n hx hb d_Li_pieceAt_12 rfl (lv_at hl 0 rfl) ?_
        refine lv_iload_n hx hb d_Li_pieceAt_13 rfl (lv_at hl 3 rfl) ?_
        obtain ⟨z7, hz7, hf⟩ := obn hf
        refine x_V (As := [.int i3_4]) (rest := []) (wc := [(z, .inr (4, [.ref z_sums_a, .ref z_from_a, .ref z_upTo_a, .int z_periods])), (z_sums_a, .inl (cy 0, 13, .inl z_sums)), (z_from_a, .inr (1, [.int z_from_upper_4, .int z_from_lower_4])), (z_upTo_a, .inr (1, [.int z_upTo_upper_4, .int z_upTo_lower_4]))]) (wr := []) (t_Li_isPiece l G cy kz N0  z z_periods z_sums_a z_sums z_from_a z_from_upper_4 z_from_lower_4 z_upTo_a z_upTo_upper_4 z_upTo_lower_4 i3_4 z7 hz7 (fun w => w = [(z, .inr (4, [.ref z_sums_a, .ref z_from_a, .ref z_upTo_a, .int z_periods])), (z_sums_a, .inl (cy 0, 13, .inl z_sums)), (z_from_a, .inr (1, [.int z7.2.1, .int z7.2.2.1])), (z_upTo_a, .inr (1, [.int z7.2.2.2.1, .int z7.2.2.2.2]))]) rfl) hx hb hml hown hB hE hN hNA m_468 m_470 mS_Li_isPiece m_5 m_471 hdV_Li_isPiece ⟨Nat.le_of_ble_eq_true rfl, Nat.le_of_ble_eq_true rfl, Nat.le_of_ble_eq_true rfl, Nat.le_of_ble_eq_true rfl⟩ hP hD hS hA 0 4 rfl rfl rfl [0, 1, 2, 3] [] rfl rfl (by decide) (by decide) hl.1 rfl (Nat.le_of_ble_eq_true rfl) d_Li_pieceAt_14 (fun _ H locs hw hP hD hS => ?_)
        subst hw
        replace hP : va_P G classes [(z, .inr (4, [.ref z_sums_a, .ref z_from_a, .ref z_upTo_a, .int z_periods])), (z_sums_a, .inl (cy 0, 13, .inl z_sums)), (z_from_a, .inr (1, [.int z7.2.1, .int z7.2.2.1])), (z_upTo_a, .inr (1, [.int z7.2.2.2.1, .int z7.2.2.2.2]))] H := hP.sub [0, 1, 2, 3] rfl
        replace hD : va_D A [(z, .inr (4, [.ref z_sums_a, .ref z_from_a, .ref z_upTo_a, .int z_periods])), (z_sums_a, .inl (cy 0, 13, .inl z_sums)), (z_from_a, .inr (1, [.int z7.2.1, .int z7.2.2.1])), (z_upTo_a, .inr (1, [.int z7.2.2.2.1, .int z7.2.2.2.2]))] := hD.sub [0, 1, 2, 3] (by decide) rfl
        refine lv_if_eq (tgt := 30) hx hb d_Li_pieceAt_17 (by decide) (fun hc8 => ?_) (fun hc8 => ?_)
        · replace hf := iteP hc8 hf
          refine lv_iinc (v := (i3_4 + (1 : Int32))) (lv' := [(3, .int (i3_4 + (1 : Int32))), (0, .ref z), (1, .int p0), (2, .int i2_4)]) hx hb d_Li_pieceAt_30 hl (k := 3) rfl rfl (by decide) rfl (fun ls hl => ?_)
          refine lv_goto (tgt := 4) hx hb d_Li_pieceAt_33 (by decide) ?_
          exact ih i2_4 (i3_4 + (1 : Int32)) z7.2.1 z7.2.2.1 z7.2.2.2.1 z7.2.2.2.2 hf _ _ hP hD hS _ (lv_sub hl [1, 2, 3, 0] rfl)
        · replace hf := iteN hc8 hf
          refine lv_iload_n hx hb d_Li_pieceAt_20 rfl (lv_at hl 2 rfl) ?_
          refine lv_iload_n hx hb d_Li_pieceAt_21 rfl (lv_at hl 1 rfl) ?_
          refine lv_icmp_ne (tgt := 27) hx hb d_Li_pieceAt_22 (by decide) (fun hc9 => ?_) (fun hc9 => ?_)
          · replace hf := iteN hc9 hf
            refine lv_iinc (v := (i2_4 + (1 : Int32))) (lv' := [(2, .int (i2_4 + (1 : Int32))), (0, .ref z), (1, .int p0), (3, .int i3_4)]) hx hb d_Li_pieceAt_27 hl (k := 2) rfl rfl (by decide) rfl (fun ls hl => ?_)
            refine lv_iinc (v := (i3_4 + (1 : Int32))) (lv' := [(3, .int (i3_4 + (1 : Int32))), (2, .int (i2_4 + (1 : Int32))), (0, .ref z), (1, .int p0)]) hx hb d_Li_pieceAt_30 hl (k := 3) rfl rfl (by decide) rfl (fun ls hl => ?_)
            refine lv_goto (tgt := 4) hx hb d_Li_pieceAt_33 (by decide) ?_
            exact ih (i2_4 + (1 : Int32)) (i3_4 + (1 : Int32)) z7.2.1 z7.2.2.1 z7.2.2.2.1 z7.2.2.2.2 hf _ _ hP hD hS _ (lv_sub hl [2, 3, 1, 0] rfl)
          · replace hf := iteP hc9 hf
            refine lv_iload_n hx hb d_Li_pieceAt_25 rfl (lv_at hl 3 rfl) ?_
            obtain rfl := Option.some.inj hf
            have hf := K2 _ rfl
            obtain rfl := Option.some.inj hf
            exact W.iret hx hb hr (x_ret hP hD hS hBp) hS.2.2 d_Li_pieceAt_26
  exact L3 FU (0 : Int32) (0 : Int32) z_from_upper z_from_lower z_upTo_upper z_upTo_lower hz4 _ _ hP hD hS _ (lv_sub hl [2, 3, 1, 0] rfl)
