set_option maxHeartbeats 4000000 in
set_option maxRecDepth 100000 in
theorem t_Fu_failsWithin (l : Launch) (G : va_G) (cy : Nat → ClassId) (kz : Nat → Nat) (N0 : Nat) (o0 : Nat) (o0_periods : Int32) (o0_draft : Int32) (o0_cap : Int32) (o0_time : Int32) (o0_volume : Int32) (o0_fails : Int32) (o0_lacking : Int32) (o0_spilt : Int32) (o0_inflows_a : Nat) (o0_inflows : Nat → Int32) (o0_losses_a : Nat) (o0_losses : Nat → Int32) (p1 : Int32) (p2 : Int32) (out : Int32) (h0 : f_Fu_failsWithin o0_periods o0_draft o0_inflows o0_losses p1 p2 = some out) (Bp : va_W → Prop) (hBp : Bp [(o0, .inr (0, [.ref o0_inflows_a, .ref o0_losses_a, .int o0_periods, .int o0_draft, .int o0_cap, .int o0_time, .int o0_volume, .int o0_fails, .int o0_lacking, .int o0_spilt])), (o0_inflows_a, .inl (cy 0, 12, .inl o0_inflows)), (o0_losses_a, .inl (cy 0, 10, .inl o0_losses))]) : CT l G cy kz N0 y_Fu_failsWithin b_Fu_failsWithin 6 (some .boolean) 4 0 0 [.ref o0, .int p1, .int p2] [(o0, .inr (0, [.ref o0_inflows_a, .ref o0_losses_a, .int o0_periods, .int o0_draft, .int o0_cap, .int o0_time, .int o0_volume, .int o0_fails, .int o0_lacking, .int o0_spilt])), (o0_inflows_a, .inl (cy 0, 12, .inl o0_inflows)), (o0_losses_a, .inl (cy 0, 10, .inl o0_losses))] (some (.int out)) Bp := by
  refine CT.of (by decide) (Nat.le_of_ble_eq_true rfl) ?_
  intro p e s m below meth c A ls hx hb hr hml hB hown hlocks hnm hE hN hA hNA hP hD hS hl
  have hown : s.vm.findClass "YieldDesk$FullRuns" = some m.cls := hown
  have hl : lv_has ls 6 [(0, .ref o0), (1, .int p1), (2, .int p2)] := hl
  have hf := h0
  unfold f_Fu_failsWithin at hf
  refine lv_iload_n hx hb d_Fu_failsWithin_0 rfl (lv_at hl 1 rfl) ?_
  refine lv_istore_n (lv' := [(3, .int p1), (0, .ref o0), (1, .int p1), (2, .int p2)]) hx hb d_Fu_failsWithin_1 rfl hl (by decide) rfl (fun ls hl => ?_)
  refine lv_iconst (v := (0 : Int32)) hx hb d_Fu_failsWithin_2 (by decide) ?_
  refine lv_istore (lv' := [(4, .int (0 : Int32)), (3, .int p1), (0, .ref o0), (1, .int p1), (2, .int p2)]) hx hb d_Fu_failsWithin_3 hl (by decide) rfl (fun ls hl => ?_)
  obtain ⟨z4, hz4, hf⟩ := obn hf
  have K1 : ∀ x5, z4 = .inl x5 → ∀ (H : Heap) (locs : List Loc), va_P G classes [(o0, .inr (0, [.ref o0_inflows_a, .ref o0_losses_a, .int o0_periods, .int o0_draft, .int o0_cap, .int o0_time, .int o0_volume, .int o0_fails, .int o0_lacking, .int o0_spilt])), (o0_inflows_a, .inl (cy 0, 12, .inl o0_inflows)), (o0_losses_a, .inl (cy 0, 10, .inl o0_losses))] H → va_D A [(o0, .inr (0, [.ref o0_inflows_a, .ref o0_losses_a, .int o0_periods, .int o0_draft, .int o0_cap, .int o0_time, .int o0_volume, .int o0_fails, .int o0_lacking, .int o0_spilt])), (o0_inflows_a, .inl (cy 0, 12, .inl o0_inflows)), (o0_losses_a, .inl (cy 0, 10, .inl o0_losses))] → va_S A s.heap H locs → ∀ (ls : Array Slot), lv_has ls 6 [(0, .ref o0), (1, .int p1), (2, .int p2), (3, .int x5.1), (4, .int x5.2)] → W p l e (RM 4 0 0) s m ([.ref o0, .int p1, .int p2] : List Value).toArray below meth c H locs 0 0 (MQ below (CQ G (some (.int out)) Bp A) ([.ref o0, .int p1, .int p2] : List Value).toArray s 0 0 A) (F0 m 44 ls []) := by
    intro x5 ez4 H locs hP hD hS ls hl
    subst ez4
    replace hf := sml hf
    refine lv_iconst (v := (0 : Int32)) hx hb d_Fu_failsWithin_44 (by decide) ?_
    obtain rfl := Option.some.inj hf
    exact W.zret (v := (0 : Int32)) hx hb hr (show narrow .boolean (.int (0 : Int32)) = .int (0 : Int32) from rfl) (x_ret hP hD hS hBp) hS.2.2 d_Fu_failsWithin_45
  have K2 : ∀ r, z4 = .inr r → some r = some out := by
    intro r ez4
    subst ez4
    exact smr hf
  clear hf
  have L3 : ∀ (n : Nat) (i3_5 : Int32) (i4_5 : Int32), f_Fu_failsWithin_L5 o0_periods o0_draft o0_inflows o0_losses p1 p2 n i3_5 i4_5 = some z4 → ∀ (H : Heap) (locs : List Loc), va_P G classes [(o0, .inr (0, [.ref o0_inflows_a, .ref o0_losses_a, .int o0_periods, .int o0_draft, .int o0_cap, .int o0_time, .int o0_volume, .int o0_fails, .int o0_lacking, .int o0_spilt])), (o0_inflows_a, .inl (cy 0, 12, .inl o0_inflows)), (o0_losses_a, .inl (cy 0, 10, .inl o0_losses))] H → va_D A [(o0, .inr (0, [.ref o0_inflows_a, .ref o0_losses_a, .int o0_periods, .int o0_draft, .int o0_cap, .int o0_time, .int o0_volume, .int o0_fails, .int o0_lacking, .int o0_spilt])), (o0_inflows_a, .inl (cy 0, 12, .inl o0_inflows)), (o0_losses_a, .inl (cy 0, 10, .inl o0_losses))] → va_S A s.heap H locs → ∀ (ls : Array Slot), lv_has ls 6 [(0, .ref o0), (1, .int p1), (2, .int p2), (3, .int i3_5), (4, .int i4_5)] → W p l e (RM 4 0 0) s m ([.ref o0, .int p1, .int p2] : List Value).toArray below meth c H locs 0 0 (MQ below (CQ G (some (.int out)) Bp A) ([.ref o0, .int p1, .int p2] : List Value).toArray s 0 0 A) (F0 m 5 ls []) := by
    intro n
    induction n with
    | zero => intro i3_5 i4_5 hf; exact absurd ((f_Fu_failsWithin_L5_z o0_periods o0_draft o0_inflows o0_losses p1 p2 i3_5 i4_5).symm.trans hf) (by intro h; cases h)
    | succ n ih =>
      intro i3_5 i4_5 hf H locs hP hD hS ls hl
      replace hf := (f_Fu_failsWithin_L5_s o0_periods o0_draft o0_inflows o0_losses p1 p2 n i3_5 i4_5).symm.trans hf
      refine lv_iload hx hb d_Fu_failsWithin_5 (lv_at hl 4 rfl) ?_
      refine lv_iload_n hx hb d_Fu_failsWithin_7 rfl (lv_at hl 2 rfl) ?_
      refine lv_icmp_ge (tgt := 44) hx hb d_Fu_failsWithin_8 (by decide) (fun hc6 => ?_) (fun hc6 => ?_)
      · replace hf := iteP hc6 hf
        obtain rfl := Option.some.inj hf
        exact K1 _ rfl _ _ hP hD hS _ (lv_sub hl [0, 1, 2, 3, 4] rfl)
      · replace hf := iteN hc6 hf
        refine lv_aload_n hx hb d_Fu_failsWithin_11 rfl (lv_at hl 0 rfl) ?_
        refine lv_iload hx hb d_Fu_failsWithin_12 (lv_at hl 4 rfl) ?_
        refine lv_iload_n hx hb d_Fu_failsWithin_14 rfl (lv_at hl 3 rfl) ?_
        refine lv_aload_n hx hb d_Fu_failsWithin_15 rfl (lv_at hl 0 rfl) ?_
        refine va_getN (D := G) (ci := 0) (v := .int o0_draft) (C := "YieldDesk$Basin") (T := F_Ba) (N := 10) hx hb hB fi_Ba hown hE.1 hP 0 rfl rfl 3 (by decide) (va_Nw.use rfl (hE.2.1.1 _ (List.mem_of_getElem? (i := 3) rfl))) (fun _ h9 => h9) rfl d_Fu_failsWithin_16 ?_
        obtain ⟨z7, hz7, hf⟩ := obn hf
        refine x_V (As := [.int i4_5, .int i3_5, .int o0_draft]) (rest := []) (wc := [(o0, .inr (0, [.ref o0_inflows_a, .ref o0_losses_a, .int o0_periods, .int o0_draft, .int o0_cap, .int o0_time, .int o0_volume, .int o0_fails, .int o0_lacking, .int o0_spilt])), (o0_inflows_a, .inl (cy 0, 12, .inl o0_inflows)), (o0_losses_a, .inl (cy 0, 10, .inl o0_losses))]) (wr := []) (t_Ba_levelBehind l G cy kz N0  o0 o0_periods o0_draft o0_cap o0_time o0_volume o0_fails o0_lacking o0_spilt o0_inflows_a o0_inflows o0_losses_a o0_losses i4_5 i3_5 o0_draft z7 hz7 (fun w => w = [(o0, .inr (0, [.ref o0_inflows_a, .ref o0_losses_a, .int o0_periods, .int o0_draft, .int o0_cap, .int o0_time, .int o0_volume, .int o0_fails, .int o0_lacking, .int o0_spilt])), (o0_inflows_a, .inl (cy 0, 12, .inl o0_inflows)), (o0_losses_a, .inl (cy 0, 10, .inl o0_losses))]) rfl) hx hb hml hown hB hE hN hNA m_495 m_341 m_342 m_2 m_343 hdV_Ba_levelBehind ⟨Nat.le_of_ble_eq_true rfl, Nat.le_of_ble_eq_true rfl, Nat.le_of_ble_eq_true rfl, Nat.le_of_ble_eq_true rfl⟩ hP hD hS hA 0 0 rfl rfl rfl [0, 1, 2] [] rfl rfl (by decide) (by decide) hl.1 rfl (Nat.le_of_ble_eq_true rfl) d_Fu_failsWithin_19 (fun _ H locs hw hP hD hS => ?_)
        subst hw
        replace hP : va_P G classes [(o0, .inr (0, [.ref o0_inflows_a, .ref o0_losses_a, .int o0_periods, .int o0_draft, .int o0_cap, .int o0_time, .int o0_volume, .int o0_fails, .int o0_lacking, .int o0_spilt])), (o0_inflows_a, .inl (cy 0, 12, .inl o0_inflows)), (o0_losses_a, .inl (cy 0, 10, .inl o0_losses))] H := hP.sub [0, 1, 2] rfl
        replace hD : va_D A [(o0, .inr (0, [.ref o0_inflows_a, .ref o0_losses_a, .int o0_periods, .int o0_draft, .int o0_cap, .int o0_time, .int o0_volume, .int o0_fails, .int o0_lacking, .int o0_spilt])), (o0_inflows_a, .inl (cy 0, 12, .inl o0_inflows)), (o0_losses_a, .inl (cy 0, 10, .inl o0_losses))] := hD.sub [0, 1, 2] (by decide) rfl
        refine lv_istore (lv' := [(5, .int z7), (0, .ref o0), (1, .int p1), (2, .int p2), (3, .int i3_5), (4, .int i4_5)]) hx hb d_Fu_failsWithin_22 hl (by decide) rfl (fun ls hl => ?_)
        refine lv_iload hx hb d_Fu_failsWithin_24 (lv_at hl 0 rfl) ?_
        refine lv_if_ge (tgt := 31) hx hb d_Fu_failsWithin_26 (by decide) (fun hc8 => ?_) (fun hc8 => ?_)
        · replace hf := iteP hc8 hf
          refine lv_iload hx hb d_Fu_failsWithin_31 (lv_at hl 0 rfl) ?_
          refine lv_iload_n hx hb d_Fu_failsWithin_33 rfl (lv_at hl 2 rfl) ?_
          refine va_mmin hx hb (hml.trans hl.1.symm) hown (hB _ m_496) (hB _ m_271) (hB _ m_10) (hB _ m_272) (Nat.le_of_ble_eq_true rfl) (Nat.le_of_ble_eq_true rfl) (Nat.le_of_ble_eq_true rfl) (Nat.le_of_ble_eq_true rfl) d_Fu_failsWithin_34 ?_
          refine lv_istore_n (lv' := [(3, .int (if p1 < z7 then p1 else z7)), (5, .int z7), (0, .ref o0), (1, .int p1), (2, .int p2), (4, .int i4_5)]) hx hb d_Fu_failsWithin_37 rfl hl (by decide) rfl (fun ls hl => ?_)
          refine lv_iinc (v := (i4_5 + (1 : Int32))) (lv' := [(4, .int (i4_5 + (1 : Int32))), (3, .int (if p1 < z7 then p1 else z7)), (5, .int z7), (0, .ref o0), (1, .int p1), (2, .int p2)]) hx hb d_Fu_failsWithin_38 hl (k := 5) rfl rfl (by decide) rfl (fun ls hl => ?_)
          refine lv_goto (tgt := 5) hx hb d_Fu_failsWithin_41 (by decide) ?_
          exact ih (if p1 < z7 then p1 else z7) (i4_5 + (1 : Int32)) hf _ _ hP hD hS _ (lv_sub hl [3, 4, 5, 1, 0] rfl)
        · replace hf := iteN hc8 hf
          refine lv_iconst (v := (1 : Int32)) hx hb d_Fu_failsWithin_29 (by decide) ?_
          obtain rfl := Option.some.inj hf
          have hf := K2 _ rfl
          obtain rfl := Option.some.inj hf
          exact W.zret (v := (1 : Int32)) hx hb hr (show narrow .boolean (.int (1 : Int32)) = .int (1 : Int32) from rfl) (x_ret hP hD hS hBp) hS.2.2 d_Fu_failsWithin_30
  exact L3 FU p1 (0 : Int32) hz4 _ _ hP hD hS _ (lv_sub hl [2, 3, 4, 1, 0] rfl)
set_option maxHeartbeats 4000000 in
set_option maxRecDepth 100000 in
theorem t_Fu_leastCap (l : Launch) (G : va_G) (cy : Nat → ClassId) (kz : Nat → Nat) (N0 : Nat) (z : Nat) (z_roundStart : Int32) (z_roundLength : Int32) (z_roundFails : Int32) (z_multipleAtVolume_a : Nat) (z_multipleAtVolume : Nat → Int32) (o0 : Nat) (o0_periods : Int32) (o0_draft : Int32) (o0_cap : Int32) (o0_time : Int32) (o0_volume : Int32) (o0_fails : Int32) (o0_lacking : Int32) (o0_spilt : Int32) (o0_inflows_a : Nat) (o0_inflows : Nat → Int32) (o0_losses_a : Nat) (o0_losses : Nat → Int32) (p1 : Int32) (out : Int32) (h0 : f_Fu_leastCap o0_periods o0_draft o0_inflows o0_losses p1 = some out) (Bp : va_W → Prop) (hBp : Bp [(z, .inr (2, [.ref z_multipleAtVolume_a, .int z_roundStart, .int z_roundLength, .int z_roundFails])), (z_multipleAtVolume_a, .inl (cy 0, 1000, .inl z_multipleAtVolume)), (o0, .inr (0, [.ref o0_inflows_a, .ref o0_losses_a, .int o0_periods, .int o0_draft, .int o0_cap, .int o0_time, .int o0_volume, .int o0_fails, .int o0_lacking, .int o0_spilt])), (o0_inflows_a, .inl (cy 0, 12, .inl o0_inflows)), (o0_losses_a, .inl (cy 0, 10, .inl o0_losses))]) : CT l G cy kz N0 y_Fu_leastCap b_Fu_leastCap 4 (some .int) 5 0 0 [.ref z, .ref o0, .int p1] [(z, .inr (2, [.ref z_multipleAtVolume_a, .int z_roundStart, .int z_roundLength, .int z_roundFails])), (z_multipleAtVolume_a, .inl (cy 0, 1000, .inl z_multipleAtVolume)), (o0, .inr (0, [.ref o0_inflows_a, .ref o0_losses_a, .int o0_periods, .int o0_draft, .int o0_cap, .int o0_time, .int o0_volume, .int o0_fails, .int o0_lacking, .int o0_spilt])), (o0_inflows_a, .inl (cy 0, 12, .inl o0_inflows)), (o0_losses_a, .inl (cy 0, 10, .inl o0_losses))] (some (.int out)) Bp := by
  refine CT.of (by decide) (Nat.le_of_ble_eq_true rfl) ?_
  intro p e s m below meth c A ls hx hb hr hml hB hown hlocks hnm hE hN hA hNA hP hD hS hl
  have hown : s.vm.findClass "YieldDesk$FullRuns" = some m.cls := hown
  have hl : lv_has ls 4 [(0, .ref z), (1, .ref o0), (2, .int p1)] := hl
  have hf := h0
  unfold f_Fu_leastCap at hf
  refine lv_iconst (v := (0 : Int32)) hx hb d_Fu_leastCap_0 (by decide) ?_
  refine lv_istore_n (lv' := [(3, .int (0 : Int32)), (0, .ref z), (1, .ref o0), (2, .int p1)]) hx hb d_Fu_leastCap_1 rfl hl (by decide) rfl (fun ls hl => ?_)
  obtain ⟨z4, hz4, hf⟩ := obn hf
  have K1 : ∀ x5, z4 = .inl x5 → ∀ (H : Heap) (locs : List Loc), va_P G classes [(z, .inr (2, [.ref z_multipleAtVolume_a, .int z_roundStart, .int z_roundLength, .int z_roundFails])), (z_multipleAtVolume_a, .inl (cy 0, 1000, .inl z_multipleAtVolume)), (o0, .inr (0, [.ref o0_inflows_a, .ref o0_losses_a, .int o0_periods, .int o0_draft, .int o0_cap, .int o0_time, .int o0_volume, .int o0_fails, .int o0_lacking, .int o0_spilt])), (o0_inflows_a, .inl (cy 0, 12, .inl o0_inflows)), (o0_losses_a, .inl (cy 0, 10, .inl o0_losses))] H → va_D A [(z, .inr (2, [.ref z_multipleAtVolume_a, .int z_roundStart, .int z_roundLength, .int z_roundFails])), (z_multipleAtVolume_a, .inl (cy 0, 1000, .inl z_multipleAtVolume)), (o0, .inr (0, [.ref o0_inflows_a, .ref o0_losses_a, .int o0_periods, .int o0_draft, .int o0_cap, .int o0_time, .int o0_volume, .int o0_fails, .int o0_lacking, .int o0_spilt])), (o0_inflows_a, .inl (cy 0, 12, .inl o0_inflows)), (o0_losses_a, .inl (cy 0, 10, .inl o0_losses))] → va_S A s.heap H locs → ∀ (ls : Array Slot), lv_has ls 4 [(0, .ref z), (1, .ref o0), (2, .int p1), (3, .int x5)] → W p l e (RM 5 0 0) s m ([.ref z, .ref o0, .int p1] : List Value).toArray below meth c H locs 0 0 (MQ below (CQ G (some (.int out)) Bp A) ([.ref z, .ref o0, .int p1] : List Value).toArray s 0 0 A) (F0 m 26 ls []) := by
    intro x5 ez4 H locs hP hD hS ls hl
    subst ez4
    replace hf := sml hf
    refine lv_bipush (v := (-9 : Int32)) hx hb d_Fu_leastCap_26 (by decide) ?_
    obtain rfl := Option.some.inj hf
    exact W.iret hx hb hr (x_ret hP hD hS hBp) hS.2.2 d_Fu_leastCap_28
  have K2 : ∀ r, z4 = .inr r → some r = some out := by
    intro r ez4
    subst ez4
    exact smr hf
  clear hf
  have L3 : ∀ (n : Nat) (i3_2 : Int32), f_Fu_leastCap_L2 o0_periods o0_draft o0_inflows o0_losses p1 n i3_2 = some z4 → ∀ (H : Heap) (locs : List Loc), va_P G classes [(z, .inr (2, [.ref z_multipleAtVolume_a, .int z_roundStart, .int z_roundLength, .int z_roundFails])), (z_multipleAtVolume_a, .inl (cy 0, 1000, .inl z_multipleAtVolume)), (o0, .inr (0, [.ref o0_inflows_a, .ref o0_losses_a, .int o0_periods, .int o0_draft, .int o0_cap, .int o0_time, .int o0_volume, .int o0_fails, .int o0_lacking, .int o0_spilt])), (o0_inflows_a, .inl (cy 0, 12, .inl o0_inflows)), (o0_losses_a, .inl (cy 0, 10, .inl o0_losses))] H → va_D A [(z, .inr (2, [.ref z_multipleAtVolume_a, .int z_roundStart, .int z_roundLength, .int z_roundFails])), (z_multipleAtVolume_a, .inl (cy 0, 1000, .inl z_multipleAtVolume)), (o0, .inr (0, [.ref o0_inflows_a, .ref o0_losses_a, .int o0_periods, .int o0_draft, .int o0_cap, .int o0_time, .int o0_volume, .int o0_fails, .int o0_lacking, .int o0_spilt])), (o0_inflows_a, .inl (cy 0, 12, .inl o0_inflows)), (o0_losses_a, .inl (cy 0, 10, .inl o0_losses))] → va_S A s.heap H locs → ∀ (ls : Array Slot), lv_has ls 4 [(0, .ref z), (1, .ref o0), (2, .int p1), (3, .int i3_2)] → W p l e (RM 5 0 0) s m ([.ref z, .ref o0, .int p1] : List Value).toArray below meth c H locs 0 0 (MQ below (CQ G (some (.int out)) Bp A) ([.ref z, .ref o0, .int p1] : List Value).toArray s 0 0 A) (F0 m 2 ls []) := by
    intro n
    induction n with
    | zero => intro i3_2 hf; exact absurd ((f_Fu_leastCap_L2_z o0_periods o0_draft o0_inflows o0_losses p1 i3_2).symm.trans hf) (by intro h; cases h)
    | succ n ih =>
      intro i3_2 hf H locs hP hD hS ls hl
      replace hf := (f_Fu_leastCap_L2_s o0_periods o0_draft o0_inflows o0_losses p1 n i3_2).symm.trans hf
      refine lv_iload_n hx hb d_Fu_leastCap_2 rfl (lv_at hl 3 rfl) ?_
      refine lv_sipush (v := (999 : Int32)) hx hb d_Fu_leastCap_3 (by decide) ?_
      refine lv_icmp_gt (tgt := 26) hx hb d_Fu_leastCap_6 (by decide) (fun hc6 => ?_) (fun hc6 => ?_)
      · replace hf := iteP hc6 hf
        obtain rfl := Option.some.inj hf
        exact K1 _ rfl _ _ hP hD hS _ (lv_sub hl [0, 1, 2, 3] rfl)
      · replace hf := iteN hc6 hf
        refine lv_aload_n hx hb d_Fu_leastCap_9 rfl (lv_at hl 1 rfl) ?_
        refine lv_iload_n hx hb d_Fu_leastCap_10 rfl (lv_at hl 3 rfl) ?_
        refine lv_iload_n hx hb d_Fu_leastCap_11 rfl (lv_at hl 2 rfl) ?_
        obtain ⟨z7, hz7, hf⟩ := obn hf
        refine x_S (As := [.ref o0, .int i3_2, .int p1]) (rest := []) (wc := [(o0, .inr (0, [.ref o0_inflows_a, .ref o0_losses_a, .int o0_periods, .int o0_draft, .int o0_cap, .int o0_time, .int o0_volume, .int o0_fails, .int o0_lacking, .int o0_spilt])), (o0_inflows_a, .inl (cy 0, 12, .inl o0_inflows)), (o0_losses_a, .inl (cy 0, 10, .inl o0_losses))]) (wr := [(z, .inr (2, [.ref z_multipleAtVolume_a, .int z_roundStart, .int z_roundLength, .int z_roundFails])), (z_multipleAtVolume_a, .inl (cy 0, 1000, .inl z_multipleAtVolume))]) (t_Fu_failsWithin l G cy kz N0  o0 o0_periods o0_draft o0_cap o0_time o0_volume o0_fails o0_lacking o0_spilt o0_inflows_a o0_inflows o0_losses_a o0_losses i3_2 p1 z7 hz7 (fun w => w = [(o0, .inr (0, [.ref o0_inflows_a, .ref o0_losses_a, .int o0_periods, .int o0_draft, .int o0_cap, .int o0_time, .int o0_volume, .int o0_fails, .int o0_lacking, .int o0_spilt])), (o0_inflows_a, .inl (cy 0, 12, .inl o0_inflows)), (o0_losses_a, .inl (cy 0, 10, .inl o0_losses))]) rfl) hx hb hml hown hB hE hN hNA m_492 m_493 m_7 m_494 hdS_Fu_failsWithin ⟨Nat.le_of_ble_eq_true rfl, Nat.le_of_ble_eq_true rfl, Nat.le_of_ble_eq_true rfl, Nat.le_of_ble_eq_true rfl⟩ hP hD hS hA [2, 3, 4] [0, 1] rfl rfl (by decide) (by decide) hl.1 rfl (Nat.le_of_ble_eq_true rfl) d_Fu_leastCap_12 (fun _ H locs hw hP hD hS => ?_)
        subst hw
        replace hP : va_P G classes [(z, .inr (2, [.ref z_multipleAtVolume_a, .int z_roundStart, .int z_roundLength, .int z_roundFails])), (z_multipleAtVolume_a, .inl (cy 0, 1000, .inl z_multipleAtVolume)), (o0, .inr (0, [.ref o0_inflows_a, .ref o0_losses_a, .int o0_periods, .int o0_draft, .int o0_cap, .int o0_time, .int o0_volume, .int o0_fails, .int o0_lacking, .int o0_spilt])), (o0_inflows_a, .inl (cy 0, 12, .inl o0_inflows)), (o0_losses_a, .inl (cy 0, 10, .inl o0_losses))] H := hP.sub [0, 1, 2, 3, 4] rfl
        replace hD : va_D A [(z, .inr (2, [.ref z_multipleAtVolume_a, .int z_roundStart, .int z_roundLength, .int z_roundFails])), (z_multipleAtVolume_a, .inl (cy 0, 1000, .inl z_multipleAtVolume)), (o0, .inr (0, [.ref o0_inflows_a, .ref o0_losses_a, .int o0_periods, .int o0_draft, .int o0_cap, .int o0_time, .int o0_volume, .int o0_fails, .int o0_lacking, .int o0_spilt])), (o0_inflows_a, .inl (cy 0, 12, .inl o0_inflows)), (o0_losses_a, .inl (cy 0, 10, .inl o0_losses))] := hD.sub [0, 1, 2, 3, 4] (by decide) rfl
        refine lv_if_ne (tgt := 20) hx hb d_Fu_leastCap_15 (by decide) (fun hc8 => ?_) (fun hc8 => ?_)
        · replace hf := iteN hc8 hf
          refine lv_iinc (v := (i3_2 + (1 : Int32))) (lv' := [(3, .int (i3_2 + (1 : Int32))), (0, .ref z), (1, .ref o0), (2, .int p1)]) hx hb d_Fu_leastCap_20 hl (k := 3) rfl rfl (by decide) rfl (fun ls hl => ?_)
          refine lv_goto (tgt := 2) hx hb d_Fu_leastCap_23 (by decide) ?_
          exact ih (i3_2 + (1 : Int32)) hf _ _ hP hD hS _ (lv_sub hl [1, 2, 3, 0] rfl)
        · replace hf := iteP hc8 hf
          refine lv_iload_n hx hb d_Fu_leastCap_18 rfl (lv_at hl 3 rfl) ?_
          obtain rfl := Option.some.inj hf
          have hf := K2 _ rfl
          obtain rfl := Option.some.inj hf
          exact W.iret hx hb hr (x_ret hP hD hS hBp) hS.2.2 d_Fu_leastCap_19
  exact L3 FU (0 : Int32) hz4 _ _ hP hD hS _ (lv_sub hl [1, 2, 3, 0] rfl)
set_option maxHeartbeats 4000000 in
set_option maxRecDepth 100000 in
theorem t_Fu_multipleOf (l : Launch) (G : va_G) (cy : Nat → ClassId) (kz : Nat → Nat) (N0 : Nat) (z : Nat) (z_roundStart : Int32) (z_roundLength : Int32) (z_roundFails : Int32) (z_multipleAtVolume_a : Nat) (z_multipleAtVolume : Nat → Int32) (p0 : Int32) (out : Int32) (h0 : f_Fu_multipleOf z_multipleAtVolume p0 = some out) (Bp : va_W → Prop) (hBp : Bp [(z, .inr (2, [.ref z_multipleAtVolume_a, .int z_roundStart, .int z_roundLength, .int z_roundFails])), (z_multipleAtVolume_a, .inl (cy 0, 1000, .inl z_multipleAtVolume))]) : CT l G cy kz N0 y_Fu_multipleOf b_Fu_multipleOf 2 (some .int) 1 0 0 [.ref z, .int p0] [(z, .inr (2, [.ref z_multipleAtVolume_a, .int z_roundStart, .int z_roundLength, .int z_roundFails])), (z_multipleAtVolume_a, .inl (cy 0, 1000, .inl z_multipleAtVolume))] (some (.int out)) Bp := by
  refine CT.of (by decide) (Nat.le_of_ble_eq_true rfl) ?_
  intro p e s m below meth c A ls hx hb hr hml hB hown hlocks hnm hE hN hA hNA hP hD hS hl
  have hown : s.vm.findClass "YieldDesk$FullRuns" = some m.cls := hown
  have hl : lv_has ls 2 [(0, .ref z), (1, .int p0)] := hl
  have hf := h0
  unfold f_Fu_multipleOf at hf
  refine lv_iload_n hx hb d_Fu_multipleOf_0 rfl (lv_at hl 1 rfl) ?_
  refine lv_iconst (v := (0 : Int32)) hx hb d_Fu_multipleOf_1 (by decide) ?_
  refine lv_sipush (v := (999 : Int32)) hx hb d_Fu_multipleOf_2 (by decide) ?_
  obtain ⟨z1, hz1, hf⟩ := obn hf
  refine x_SN0 (As := [.int p0, .int (0 : Int32), .int (999 : Int32)]) (rest := []) (t_Ye_isOutside l G cy kz N0  p0 (0 : Int32) (999 : Int32) z1 hz1 (fun w => w = []) rfl) hx hb hml hown hB hE hN hNA (List.mem_of_getElem? (i := 11) rfl) m_240 m_1 m_241 hdS_Ye_isOutside ⟨Nat.le_of_ble_eq_true rfl, Nat.le_of_ble_eq_true rfl, Nat.le_of_ble_eq_true rfl, Nat.le_of_ble_eq_true rfl⟩ hP hD hS hA hl.1 rfl (Nat.le_of_ble_eq_true rfl) d_Fu_multipleOf_5 (fun H locs hP hD hS => ?_)
  refine lv_if_eq (tgt := 15) hx hb d_Fu_multipleOf_8 (by decide) (fun hc2 => ?_) (fun hc2 => ?_)
  · replace hf := iteP hc2 hf
    refine lv_aload_n hx hb d_Fu_multipleOf_15 rfl (lv_at hl 0 rfl) ?_
    refine va_get (D := G) (ci := 2) (v := .ref z_multipleAtVolume_a) (C := "YieldDesk$FullRuns") (T := F_Fu) (N := 4) hx hb hB fi_Fu hown hE.1 hP 0 rfl rfl 0 (by decide) (hB _ m_160) (fun _ h9 => h9) rfl d_Fu_multipleOf_16 ?_
    refine lv_iload_n hx hb d_Fu_multipleOf_19 rfl (lv_at hl 1 rfl) ?_
    obtain ⟨hg3, hf⟩ := gdn hf
    refine va_iald hx hb hE.1 hP 1 0 rfl rfl hg3 d_Fu_multipleOf_20 ?_
    obtain rfl := Option.some.inj hf
    exact W.iret hx hb hr (x_ret hP hD hS hBp) hS.2.2 d_Fu_multipleOf_21
  · replace hf := iteN hc2 hf
    refine lv_iconst (v := (0 : Int32)) hx hb d_Fu_multipleOf_11 (by decide) ?_
    refine lv_goto (tgt := 21) hx hb d_Fu_multipleOf_12 (by decide) ?_
    obtain rfl := Option.some.inj hf
    exact W.iret hx hb hr (x_ret hP hD hS hBp) hS.2.2 d_Fu_multipleOf_21
set_option maxHeartbeats 4000000 in
set_option maxRecDepth 100000 in
theorem t_Fu_noteMultiple (l : Launch) (G : va_G) (cy : Nat → ClassId) (kz : Nat → Nat) (N0 : Nat) (z : Nat) (z_roundStart : Int32) (z_roundLength : Int32) (z_roundFails : Int32) (z_multipleAtVolume_a : Nat) (z_multipleAtVolume : Nat → Int32) (p0 : Int32) (p1 : Int32) (out : (Nat → Int32)) (h0 : f_Fu_noteMultiple z_multipleAtVolume p0 p1 = some out) (Bp : va_W → Prop) (hBp : Bp [(z, .inr (2, [.ref z_multipleAtVolume_a, .int z_roundStart, .int z_roundLength, .int z_roundFails])), (z_multipleAtVolume_a, .inl (cy 0, 1000, .inl out))]) : CT l G cy kz N0 y_Fu_noteMultiple b_Fu_noteMultiple 3 none 1 0 0 [.ref z, .int p0, .int p1] [(z, .inr (2, [.ref z_multipleAtVolume_a, .int z_roundStart, .int z_roundLength, .int z_roundFails])), (z_multipleAtVolume_a, .inl (cy 0, 1000, .inl z_multipleAtVolume))] none Bp := by
  refine CT.of (by decide) (Nat.le_of_ble_eq_true rfl) ?_
  intro p e s m below meth c A ls hx hb hr hml hB hown hlocks hnm hE hN hA hNA hP hD hS hl
  have hown : s.vm.findClass "YieldDesk$FullRuns" = some m.cls := hown
  have hl : lv_has ls 3 [(0, .ref z), (1, .int p0), (2, .int p1)] := hl
  have hf := h0
  unfold f_Fu_noteMultiple at hf
  refine lv_iload_n hx hb d_Fu_noteMultiple_0 rfl (lv_at hl 1 rfl) ?_
  refine lv_iconst (v := (0 : Int32)) hx hb d_Fu_noteMultiple_1 (by decide) ?_
  refine lv_sipush (v := (999 : Int32)) hx hb d_Fu_noteMultiple_2 (by decide) ?_
  obtain ⟨z1, hz1, hf⟩ := obn hf
  refine x_SN0 (As := [.int p0, .int (0 : Int32), .int (999 : Int32)]) (rest := []) (t_Ye_isOutside l G cy kz N0  p0 (0 : Int32) (999 : Int32) z1 hz1 (fun w => w = []) rfl) hx hb hml hown hB hE hN hNA (List.mem_of_getElem? (i := 11) rfl) m_240 m_1 m_241 hdS_Ye_isOutside ⟨Nat.le_of_ble_eq_true rfl, Nat.le_of_ble_eq_true rfl, Nat.le_of_ble_eq_true rfl, Nat.le_of_ble_eq_true rfl⟩ hP hD hS hA hl.1 rfl (Nat.le_of_ble_eq_true rfl) d_Fu_noteMultiple_5 (fun H locs hP hD hS => ?_)
  refine lv_if_ne (tgt := 18) hx hb d_Fu_noteMultiple_8 (by decide) (fun hc2 => ?_) (fun hc2 => ?_)
  · replace hf := iteN hc2 hf
    obtain rfl := Option.some.inj hf
    exact W.vret hx hb hr (x_ret hP hD hS hBp) hS.2.2 d_Fu_noteMultiple_18
  · replace hf := iteP hc2 hf
    refine lv_aload_n hx hb d_Fu_noteMultiple_11 rfl (lv_at hl 0 rfl) ?_
    refine va_get (D := G) (ci := 2) (v := .ref z_multipleAtVolume_a) (C := "YieldDesk$FullRuns") (T := F_Fu) (N := 4) hx hb hB fi_Fu hown hE.1 hP 0 rfl rfl 0 (by decide) (hB _ m_160) (fun _ h9 => h9) rfl d_Fu_noteMultiple_12 ?_
    refine lv_iload_n hx hb d_Fu_noteMultiple_15 rfl (lv_at hl 1 rfl) ?_
    refine lv_iload_n hx hb d_Fu_noteMultiple_16 rfl (lv_at hl 2 rfl) ?_
    obtain ⟨hg3, hf⟩ := gdn hf
    refine va_iast hx hb hE.1 hP hD hS 1 0 rfl rfl hg3 d_Fu_noteMultiple_17 (fun H locs hP hD hS => ?_)
    have hP : va_P G classes [(z, .inr (2, [.ref z_multipleAtVolume_a, .int z_roundStart, .int z_roundLength, .int z_roundFails])), (z_multipleAtVolume_a, .inl (cy 0, 1000, .inl (upd z_multipleAtVolume p0.toNatClampNeg p1)))] H := hP
    have hD : va_D A [(z, .inr (2, [.ref z_multipleAtVolume_a, .int z_roundStart, .int z_roundLength, .int z_roundFails])), (z_multipleAtVolume_a, .inl (cy 0, 1000, .inl (upd z_multipleAtVolume p0.toNatClampNeg p1)))] := hD
    obtain rfl := Option.some.inj hf
    exact W.vret hx hb hr (x_ret hP hD hS hBp) hS.2.2 d_Fu_noteMultiple_18
set_option maxHeartbeats 4000000 in
set_option maxRecDepth 100000 in
theorem t_Fu_volumeAfterAll (l : Launch) (G : va_G) (cy : Nat → ClassId) (kz : Nat → Nat) (N0 : Nat) (z : Nat) (z_roundStart : Int32) (z_roundLength : Int32) (z_roundFails : Int32) (z_multipleAtVolume_a : Nat) (z_multipleAtVolume : Nat → Int32) (o0 : Nat) (o0_periods : Int32) (o0_draft : Int32) (o0_cap : Int32) (o0_time : Int32) (o0_volume : Int32) (o0_fails : Int32) (o0_lacking : Int32) (o0_spilt : Int32) (o0_inflows_a : Nat) (o0_inflows : Nat → Int32) (o0_losses_a : Nat) (o0_losses : Nat → Int32) (p1 : Int32) (out : Int32 × Int32) (h0 : f_Fu_volumeAfterAll z_roundFails o0_periods o0_draft o0_cap o0_inflows o0_losses p1 = some out) (Bp : va_W → Prop) (hBp : Bp [(z, .inr (2, [.ref z_multipleAtVolume_a, .int z_roundStart, .int z_roundLength, .int out.2])), (z_multipleAtVolume_a, .inl (cy 0, 1000, .inl z_multipleAtVolume)), (o0, .inr (0, [.ref o0_inflows_a, .ref o0_losses_a, .int o0_periods, .int o0_draft, .int o0_cap, .int o0_time, .int o0_volume, .int o0_fails, .int o0_lacking, .int o0_spilt])), (o0_inflows_a, .inl (cy 0, 12, .inl o0_inflows)), (o0_losses_a, .inl (cy 0, 10, .inl o0_losses))]) : CT l G cy kz N0 y_Fu_volumeAfterAll b_Fu_volumeAfterAll 6 (some .int) 4 0 0 [.ref z, .ref o0, .int p1] [(z, .inr (2, [.ref z_multipleAtVolume_a, .int z_roundStart, .int z_roundLength, .int z_roundFails])), (z_multipleAtVolume_a, .inl (cy 0, 1000, .inl z_multipleAtVolume)), (o0, .inr (0, [.ref o0_inflows_a, .ref o0_losses_a, .int o0_periods, .int o0_draft, .int o0_cap, .int o0_time, .int o0_volume, .int o0_fails, .int o0_lacking, .int o0_spilt])), (o0_inflows_a, .inl (cy 0, 12, .inl o0_inflows)), (o0_losses_a, .inl (cy 0, 10, .inl o0_losses))] (some (.int out.1)) Bp := by
  refine CT.of (by decide) (Nat.le_of_ble_eq_true rfl) ?_
  intro p e s m below meth c A ls hx hb hr hml hB hown hlocks hnm hE hN hA hNA hP hD hS hl
  have hown : s.vm.findClass "YieldDesk$FullRuns" = some m.cls := hown
  have hl : lv_has ls 6 [(0, .ref z), (1, .ref o0), (2, .int p1)] := hl
  have hf := h0
  unfold f_Fu_volumeAfterAll at hf
  refine lv_iload_n hx hb d_Fu_volumeAfterAll_0 rfl (lv_at hl 2 rfl) ?_
  refine lv_istore_n (lv' := [(3, .int p1), (0, .ref z), (1, .ref o0), (2, .int p1)]) hx hb d_Fu_volumeAfterAll_1 rfl hl (by decide) rfl (fun ls hl => ?_)
  refine lv_iconst (v := (0 : Int32)) hx hb d_Fu_volumeAfterAll_2 (by decide) ?_
  refine lv_istore (lv' := [(4, .int (0 : Int32)), (3, .int p1), (0, .ref z), (1, .ref o0), (2, .int p1)]) hx hb d_Fu_volumeAfterAll_3 hl (by decide) rfl (fun ls hl => ?_)
  obtain ⟨z4, hz4, hf⟩ := obn hf
  have K1 : ∀ (H : Heap) (locs : List Loc), va_P G classes [(z, .inr (2, [.ref z_multipleAtVolume_a, .int z_roundStart, .int z_roundLength, .int z4.2.2])), (z_multipleAtVolume_a, .inl (cy 0, 1000, .inl z_multipleAtVolume)), (o0, .inr (0, [.ref o0_inflows_a, .ref o0_losses_a, .int o0_periods, .int o0_draft, .int o0_cap, .int o0_time, .int o0_volume, .int o0_fails, .int o0_lacking, .int o0_spilt])), (o0_inflows_a, .inl (cy 0, 12, .inl o0_inflows)), (o0_losses_a, .inl (cy 0, 10, .inl o0_losses))] H → va_D A [(z, .inr (2, [.ref z_multipleAtVolume_a, .int z_roundStart, .int z_roundLength, .int z4.2.2])), (z_multipleAtVolume_a, .inl (cy 0, 1000, .inl z_multipleAtVolume)), (o0, .inr (0, [.ref o0_inflows_a, .ref o0_losses_a, .int o0_periods, .int o0_draft, .int o0_cap, .int o0_time, .int o0_volume, .int o0_fails, .int o0_lacking, .int o0_spilt])), (o0_inflows_a, .inl (cy 0, 12, .inl o0_inflows)), (o0_losses_a, .inl (cy 0, 10, .inl o0_losses))] → va_S A s.heap H locs → ∀ (ls : Array Slot), lv_has ls 6 [(0, .ref z), (1, .ref o0), (2, .int p1), (3, .int z4.1), (4, .int z4.2.1)] → W p l e (RM 4 0 0) s m ([.ref z, .ref o0, .int p1] : List Value).toArray below meth c H locs 0 0 (MQ below (CQ G (some (.int out.1)) Bp A) ([.ref z, .ref o0, .int p1] : List Value).toArray s 0 0 A) (F0 m 58 ls []) := by
    intro H locs hP hD hS ls hl
    refine lv_iload_n hx hb d_Fu_volumeAfterAll_58 rfl (lv_at hl 3 rfl) ?_
    obtain rfl := Option.some.inj hf
    exact W.iret hx hb hr (x_ret hP hD hS hBp) hS.2.2 d_Fu_volumeAfterAll_59
  clear hf
  have L3 : ∀ (n : Nat) (i3_5 : Int32) (i4_5 : Int32) (z_roundFails_5 : Int32), f_Fu_volumeAfterAll_L5 o0_periods o0_draft o0_cap o0_inflows o0_losses n i3_5 i4_5 z_roundFails_5 = some z4 → ∀ (H : Heap) (locs : List Loc), va_P G classes [(z, .inr (2, [.ref z_multipleAtVolume_a, .int z_roundStart, .int z_roundLength, .int z_roundFails_5])), (z_multipleAtVolume_a, .inl (cy 0, 1000, .inl z_multipleAtVolume)), (o0, .inr (0, [.ref o0_inflows_a, .ref o0_losses_a, .int o0_periods, .int o0_draft, .int o0_cap, .int o0_time, .int o0_volume, .int o0_fails, .int o0_lacking, .int o0_spilt])), (o0_inflows_a, .inl (cy 0, 12, .inl o0_inflows)), (o0_losses_a, .inl (cy 0, 10, .inl o0_losses))] H → va_D A [(z, .inr (2, [.ref z_multipleAtVolume_a, .int z_roundStart, .int z_roundLength, .int z_roundFails_5])), (z_multipleAtVolume_a, .inl (cy 0, 1000, .inl z_multipleAtVolume)), (o0, .inr (0, [.ref o0_inflows_a, .ref o0_losses_a, .int o0_periods, .int o0_draft, .int o0_cap, .int o0_time, .int o0_volume, .int o0_fails, .int o0_lacking, .int o0_spilt])), (o0_inflows_a, .inl (cy 0, 12, .inl o0_inflows)), (o0_losses_a, .inl (cy 0, 10, .inl o0_losses))] → va_S A s.heap H locs → ∀ (ls : Array Slot), lv_has ls 6 [(0, .ref z), (1, .ref o0), (2, .int p1), (3, .int i3_5), (4, .int i4_5)] → W p l e (RM 4 0 0) s m ([.ref z, .ref o0, .int p1] : List Value).toArray below meth c H locs 0 0 (MQ below (CQ G (some (.int out.1)) Bp A) ([.ref z, .ref o0, .int p1] : List Value).toArray s 0 0 A) (F0 m 5 ls []) := by
    intro n
    induction n with
    | zero => intro i3_5 i4_5 z_roundFails_5 hf; exact absurd ((f_Fu_volumeAfterAll_L5_z o0_periods o0_draft o0_cap o0_inflows o0_losses i3_5 i4_5 z_roundFails_5).symm.trans hf) (by intro h; cases h)
    | succ n ih =>
      intro i3_5 i4_5 z_roundFails_5 hf H locs hP hD hS ls hl
      replace hf := (f_Fu_volumeAfterAll_L5_s o0_periods o0_draft o0_cap o0_inflows o0_losses n i3_5 i4_5 z_roundFails_5).symm.trans hf
      refine lv_iload hx hb d_Fu_volumeAfterAll_5 (lv_at hl 4 rfl) ?_
      refine lv_aload_n hx hb d_Fu_volumeAfterAll_7 rfl (lv_at hl 1 rfl) ?_
      refine va_getN (D := G) (ci := 0) (v := .int o0_periods) (C := "YieldDesk$Basin") (T := F_Ba) (N := 10) hx hb hB fi_Ba hown hE.1 hP 2 rfl rfl 2 (by decide) (va_Nw.use rfl (hE.2.1.1 _ (List.mem_of_getElem? (i := 1) rfl))) (fun _ h9 => h9) rfl d_Fu_volumeAfterAll_8 ?_
      refine lv_icmp_ge (tgt := 58) hx hb d_Fu_volumeAfterAll_11 (by decide) (fun hc5 => ?_) (fun hc5 => ?_)
      · replace hf := iteP hc5 hf
        obtain rfl := Option.some.inj hf
        exact K1 _ _ hP hD hS _ (lv_sub hl [0, 1, 2, 3, 4] rfl)
      · replace hf := iteN hc5 hf
        refine lv_aload_n hx hb d_Fu_volumeAfterAll_14 rfl (lv_at hl 1 rfl) ?_
        refine lv_iload hx hb d_Fu_volumeAfterAll_15 (lv_at hl 4 rfl) ?_
        refine lv_iload_n hx hb d_Fu_volumeAfterAll_17 rfl (lv_at hl 3 rfl) ?_
        refine lv_aload_n hx hb d_Fu_volumeAfterAll_18 rfl (lv_at hl 1 rfl) ?_
        refine va_getN (D := G) (ci := 0) (v := .int o0_draft) (C := "YieldDesk$Basin") (T := F_Ba) (N := 10) hx hb hB fi_Ba hown hE.1 hP 2 rfl rfl 3 (by decide) (va_Nw.use rfl (hE.2.1.1 _ (List.mem_of_getElem? (i := 3) rfl))) (fun _ h9 => h9) rfl d_Fu_volumeAfterAll_19 ?_
        obtain ⟨z6, hz6, hf⟩ := obn hf
        refine x_V (As := [.int i4_5, .int i3_5, .int o0_draft]) (rest := []) (wc := [(o0, .inr (0, [.ref o0_inflows_a, .ref o0_losses_a, .int o0_periods, .int o0_draft, .int o0_cap, .int o0_time, .int o0_volume, .int o0_fails, .int o0_lacking, .int o0_spilt])), (o0_inflows_a, .inl (cy 0, 12, .inl o0_inflows)), (o0_losses_a, .inl (cy 0, 10, .inl o0_losses))]) (wr := [(z, .inr (2, [.ref z_multipleAtVolume_a, .int z_roundStart, .int z_roundLength, .int z_roundFails_5])), (z_multipleAtVolume_a, .inl (cy 0, 1000, .inl z_multipleAtVolume))]) (t_Ba_levelBehind l G cy kz N0  o0 o0_periods o0_draft o0_cap o0_time o0_volume o0_fails o0_lacking o0_spilt o0_inflows_a o0_inflows o0_losses_a o0_losses i4_5 i3_5 o0_draft z6 hz6 (fun w => w = [(o0, .inr (0, [.ref o0_inflows_a, .ref o0_losses_a, .int o0_periods, .int o0_draft, .int o0_cap, .int o0_time, .int o0_volume, .int o0_fails, .int o0_lacking, .int o0_spilt])), (o0_inflows_a, .inl (cy 0, 12, .inl o0_inflows)), (o0_losses_a, .inl (cy 0, 10, .inl o0_losses))]) rfl) hx hb hml hown hB hE hN hNA m_495 m_341 m_342 m_2 m_343 hdV_Ba_levelBehind ⟨Nat.le_of_ble_eq_true rfl, Nat.le_of_ble_eq_true rfl, Nat.le_of_ble_eq_true rfl, Nat.le_of_ble_eq_true rfl⟩ hP hD hS hA 2 0 rfl rfl rfl [2, 3, 4] [0, 1] rfl rfl (by decide) (by decide) hl.1 rfl (Nat.le_of_ble_eq_true rfl) d_Fu_volumeAfterAll_22 (fun _ H locs hw hP hD hS => ?_)
        subst hw
        replace hP : va_P G classes [(z, .inr (2, [.ref z_multipleAtVolume_a, .int z_roundStart, .int z_roundLength, .int z_roundFails_5])), (z_multipleAtVolume_a, .inl (cy 0, 1000, .inl z_multipleAtVolume)), (o0, .inr (0, [.ref o0_inflows_a, .ref o0_losses_a, .int o0_periods, .int o0_draft, .int o0_cap, .int o0_time, .int o0_volume, .int o0_fails, .int o0_lacking, .int o0_spilt])), (o0_inflows_a, .inl (cy 0, 12, .inl o0_inflows)), (o0_losses_a, .inl (cy 0, 10, .inl o0_losses))] H := hP.sub [0, 1, 2, 3, 4] rfl
        replace hD : va_D A [(z, .inr (2, [.ref z_multipleAtVolume_a, .int z_roundStart, .int z_roundLength, .int z_roundFails_5])), (z_multipleAtVolume_a, .inl (cy 0, 1000, .inl z_multipleAtVolume)), (o0, .inr (0, [.ref o0_inflows_a, .ref o0_losses_a, .int o0_periods, .int o0_draft, .int o0_cap, .int o0_time, .int o0_volume, .int o0_fails, .int o0_lacking, .int o0_spilt])), (o0_inflows_a, .inl (cy 0, 12, .inl o0_inflows)), (o0_losses_a, .inl (cy 0, 10, .inl o0_losses))] := hD.sub [0, 1, 2, 3, 4] (by decide) rfl
        refine lv_istore (lv' := [(5, .int z6), (0, .ref z), (1, .ref o0), (2, .int p1), (3, .int i3_5), (4, .int i4_5)]) hx hb d_Fu_volumeAfterAll_25 hl (by decide) rfl (fun ls hl => ?_)
        refine lv_iload hx hb d_Fu_volumeAfterAll_27 (lv_at hl 0 rfl) ?_
        refine lv_if_ge (tgt := 42) hx hb d_Fu_volumeAfterAll_29 (by decide) (fun hc7 => ?_) (fun hc7 => ?_)
        · replace hf := iteP hc7 hf
          refine lv_iload hx hb d_Fu_volumeAfterAll_42 (lv_at hl 0 rfl) ?_
          refine lv_aload_n hx hb d_Fu_volumeAfterAll_44 rfl (lv_at hl 2 rfl) ?_
          refine va_getN (D := G) (ci := 0) (v := .int o0_cap) (C := "YieldDesk$Basin") (T := F_Ba) (N := 10) hx hb hB fi_Ba hown hE.1 hP 2 rfl rfl 4 (by decide) (va_Nw.use rfl (hE.2.1.1 _ (List.mem_of_getElem? (i := 6) rfl))) (fun _ h9 => h9) rfl d_Fu_volumeAfterAll_45 ?_
          obtain ⟨z8, hz8, hf⟩ := obn hf
          refine x_S0 (As := [.int z6, .int o0_cap]) (rest := []) (t_Ba_held l G cy kz N0  z6 o0_cap z8 hz8 (fun w => w = []) rfl) hx hb hml hown hB hE hN hNA m_518 m_357 m_2 m_358 hdS_Ba_held ⟨Nat.le_of_ble_eq_true rfl, Nat.le_of_ble_eq_true rfl, Nat.le_of_ble_eq_true rfl, Nat.le_of_ble_eq_true rfl⟩ hP hD hS hA hl.1 rfl (Nat.le_of_ble_eq_true rfl) d_Fu_volumeAfterAll_48 (fun H locs hP hD hS => ?_)
          refine lv_istore_n (lv' := [(3, .int z8), (5, .int z6), (0, .ref z), (1, .ref o0), (2, .int p1), (4, .int i4_5)]) hx hb d_Fu_volumeAfterAll_51 rfl hl (by decide) rfl (fun ls hl => ?_)
          refine lv_iinc (v := (i4_5 + (1 : Int32))) (lv' := [(4, .int (i4_5 + (1 : Int32))), (3, .int z8), (5, .int z6), (0, .ref z), (1, .ref o0), (2, .int p1)]) hx hb d_Fu_volumeAfterAll_52 hl (k := 5) rfl rfl (by decide) rfl (fun ls hl => ?_)
          refine lv_goto (tgt := 5) hx hb d_Fu_volumeAfterAll_55 (by decide) ?_
          exact ih z8 (i4_5 + (1 : Int32)) z_roundFails_5 hf _ _ hP hD hS _ (lv_sub hl [3, 4, 5, 1, 0] rfl)
        · replace hf := iteN hc7 hf
          refine lv_aload_n hx hb d_Fu_volumeAfterAll_32 rfl (lv_at hl 1 rfl) ?_
          refine lv_dup hx hb d_Fu_volumeAfterAll_33 rfl ?_
          refine va_get (D := G) (ci := 2) (v := .int z_roundFails_5) (C := "YieldDesk$FullRuns") (T := F_Fu) (N := 4) hx hb hB fi_Fu hown hE.1 hP 0 rfl rfl 3 (by decide) (hB _ m_165) (fun _ h9 => h9) rfl d_Fu_volumeAfterAll_34 ?_
          refine lv_iconst (v := (1 : Int32)) hx hb d_Fu_volumeAfterAll_37 (by decide) ?_
          refine lv_iadd hx hb d_Fu_volumeAfterAll_38 ?_
          refine va_put (D := G) (ci := 2) (v := .int (z_roundFails_5 + (1 : Int32))) (ty := .int) (C := "YieldDesk$FullRuns") (T := F_Fu) (N := 4) hx hb hB fi_Fu ft_Fu fo_Fu fn_Fu hown hE.1 hP hD hS 0 rfl rfl 3 (by decide) (hB _ m_165) (fun _ h9 => h9) rfl (by decide +kernel) rfl rfl (Nat.le_of_ble_eq_true rfl) d_Fu_volumeAfterAll_39 (fun H locs hP hD hS => ?_)
          have hP : va_P G classes [(z, .inr (2, [.ref z_multipleAtVolume_a, .int z_roundStart, .int z_roundLength, .int (z_roundFails_5 + (1 : Int32))])), (z_multipleAtVolume_a, .inl (cy 0, 1000, .inl z_multipleAtVolume)), (o0, .inr (0, [.ref o0_inflows_a, .ref o0_losses_a, .int o0_periods, .int o0_draft, .int o0_cap, .int o0_time, .int o0_volume, .int o0_fails, .int o0_lacking, .int o0_spilt])), (o0_inflows_a, .inl (cy 0, 12, .inl o0_inflows)), (o0_losses_a, .inl (cy 0, 10, .inl o0_losses))] H := hP
          have hD : va_D A [(z, .inr (2, [.ref z_multipleAtVolume_a, .int z_roundStart, .int z_roundLength, .int (z_roundFails_5 + (1 : Int32))])), (z_multipleAtVolume_a, .inl (cy 0, 1000, .inl z_multipleAtVolume)), (o0, .inr (0, [.ref o0_inflows_a, .ref o0_losses_a, .int o0_periods, .int o0_draft, .int o0_cap, .int o0_time, .int o0_volume, .int o0_fails, .int o0_lacking, .int o0_spilt])), (o0_inflows_a, .inl (cy 0, 12, .inl o0_inflows)), (o0_losses_a, .inl (cy 0, 10, .inl o0_losses))] := hD
          refine lv_iload hx hb d_Fu_volumeAfterAll_42 (lv_at hl 0 rfl) ?_
          refine lv_aload_n hx hb d_Fu_volumeAfterAll_44 rfl (lv_at hl 2 rfl) ?_
          refine va_getN (D := G) (ci := 0) (v := .int o0_cap) (C := "YieldDesk$Basin") (T := F_Ba) (N := 10) hx hb hB fi_Ba hown hE.1 hP 2 rfl rfl 4 (by decide) (va_Nw.use rfl (hE.2.1.1 _ (List.mem_of_getElem? (i := 6) rfl))) (fun _ h9 => h9) rfl d_Fu_volumeAfterAll_45 ?_
          obtain ⟨z9, hz9, hf⟩ := obn hf
          refine x_S0 (As := [.int z6, .int o0_cap]) (rest := []) (t_Ba_held l G cy kz N0  z6 o0_cap z9 hz9 (fun w => w = []) rfl) hx hb hml hown hB hE hN hNA m_518 m_357 m_2 m_358 hdS_Ba_held ⟨Nat.le_of_ble_eq_true rfl, Nat.le_of_ble_eq_true rfl, Nat.le_of_ble_eq_true rfl, Nat.le_of_ble_eq_true rfl⟩ hP hD hS hA hl.1 rfl (Nat.le_of_ble_eq_true rfl) d_Fu_volumeAfterAll_48 (fun H locs hP hD hS => ?_)
          refine lv_istore_n (lv' := [(3, .int z9), (5, .int z6), (0, .ref z), (1, .ref o0), (2, .int p1), (4, .int i4_5)]) hx hb d_Fu_volumeAfterAll_51 rfl hl (by decide) rfl (fun ls hl => ?_)
          refine lv_iinc (v := (i4_5 + (1 : Int32))) (lv' := [(4, .int (i4_5 + (1 : Int32))), (3, .int z9), (5, .int z6), (0, .ref z), (1, .ref o0), (2, .int p1)]) hx hb d_Fu_volumeAfterAll_52 hl (k := 5) rfl rfl (by decide) rfl (fun ls hl => ?_)
          refine lv_goto (tgt := 5) hx hb d_Fu_volumeAfterAll_55 (by decide) ?_
          exact ih z9 (i4_5 + (1 : Int32)) (z_roundFails_5 + (1 : Int32)) hf _ _ hP hD hS _ (lv_sub hl [3, 4, 5, 1, 0] rfl)
  exact L3 FU p1 (0 : Int32) z_roundFails hz4 _ _ hP hD hS _ (lv_sub hl [2, 3, 4, 1, 0] rfl)
set_option maxHeartbeats 4000000 in
set_option maxRecDepth 100000 in
theorem t_Fu_findRound (l : Launch) (G : va_G) (cy : Nat → ClassId) (kz : Nat → Nat) (N0 : Nat) (z : Nat) (z_roundStart : Int32) (z_roundLength : Int32) (z_roundFails : Int32) (z_multipleAtVolume_a : Nat) (z_multipleAtVolume : Nat → Int32) (o0 : Nat) (o0_periods : Int32) (o0_draft : Int32) (o0_cap : Int32) (o0_time : Int32) (o0_volume : Int32) (o0_fails : Int32) (o0_lacking : Int32) (o0_spilt : Int32) (o0_inflows_a : Nat) (o0_inflows : Nat → Int32) (o0_losses_a : Nat) (o0_losses : Nat → Int32) (out : Int32 × Int32 × Int32 × (Nat → Int32)) (h0 : f_Fu_findRound z_roundFails z_multipleAtVolume o0_periods o0_draft o0_cap o0_inflows o0_losses = some out) (Bp : va_W → Prop) (hBp : Bp [(z, .inr (2, [.ref z_multipleAtVolume_a, .int out.1, .int out.2.1, .int out.2.2.1])), (z_multipleAtVolume_a, .inl (cy 0, 1000, .inl out.2.2.2)), (o0, .inr (0, [.ref o0_inflows_a, .ref o0_losses_a, .int o0_periods, .int o0_draft, .int o0_cap, .int o0_time, .int o0_volume, .int o0_fails, .int o0_lacking, .int o0_spilt])), (o0_inflows_a, .inl (cy 0, 12, .inl o0_inflows)), (o0_losses_a, .inl (cy 0, 10, .inl o0_losses))]) : CT l G cy kz N0 y_Fu_findRound b_Fu_findRound 5 none 5 0 0 [.ref z, .ref o0] [(z, .inr (2, [.ref z_multipleAtVolume_a, .int z_roundStart, .int z_roundLength, .int z_roundFails])), (z_multipleAtVolume_a, .inl (cy 0, 1000, .inl z_multipleAtVolume)), (o0, .inr (0, [.ref o0_inflows_a, .ref o0_losses_a, .int o0_periods, .int o0_draft, .int o0_cap, .int o0_time, .int o0_volume, .int o0_fails, .int o0_lacking, .int o0_spilt])), (o0_inflows_a, .inl (cy 0, 12, .inl o0_inflows)), (o0_losses_a, .inl (cy 0, 10, .inl o0_losses))] none Bp := by
  refine CT.of (by decide) (Nat.le_of_ble_eq_true rfl) ?_
  intro p e s m below meth c A ls hx hb hr hml hB hown hlocks hnm hE hN hA hNA hP hD hS hl
  have hown : s.vm.findClass "YieldDesk$FullRuns" = some m.cls := hown
  have hl : lv_has ls 5 [(0, .ref z), (1, .ref o0)] := hl
  have hf := h0
  unfold f_Fu_findRound at hf
  refine lv_iconst (v := (0 : Int32)) hx hb d_Fu_findRound_0 (by decide) ?_
  refine lv_istore_n (lv' := [(2, .int (0 : Int32)), (0, .ref z), (1, .ref o0)]) hx hb d_Fu_findRound_1 rfl hl (by decide) rfl (fun ls hl => ?_)
  obtain ⟨z4, hz4, hf⟩ := obn hf
  have K1 : ∀ (H : Heap) (locs : List Loc), va_P G classes [(z, .inr (2, [.ref z_multipleAtVolume_a, .int z_roundStart, .int z_roundLength, .int z_roundFails])), (z_multipleAtVolume_a, .inl (cy 0, 1000, .inl z4.2)), (o0, .inr (0, [.ref o0_inflows_a, .ref o0_losses_a, .int o0_periods, .int o0_draft, .int o0_cap, .int o0_time, .int o0_volume, .int o0_fails, .int o0_lacking, .int o0_spilt])), (o0_inflows_a, .inl (cy 0, 12, .inl o0_inflows)), (o0_losses_a, .inl (cy 0, 10, .inl o0_losses))] H → va_D A [(z, .inr (2, [.ref z_multipleAtVolume_a, .int z_roundStart, .int z_roundLength, .int z_roundFails])), (z_multipleAtVolume_a, .inl (cy 0, 1000, .inl z4.2)), (o0, .inr (0, [.ref o0_inflows_a, .ref o0_losses_a, .int o0_periods, .int o0_draft, .int o0_cap, .int o0_time, .int o0_volume, .int o0_fails, .int o0_lacking, .int o0_spilt])), (o0_inflows_a, .inl (cy 0, 12, .inl o0_inflows)), (o0_losses_a, .inl (cy 0, 10, .inl o0_losses))] → va_S A s.heap H locs → ∀ (ls : Array Slot), lv_has ls 5 [(0, .ref z), (1, .ref o0), (2, .int z4.1)] → W p l e (RM 5 0 0) s m ([.ref z, .ref o0] : List Value).toArray below meth c H locs 0 0 (MQ below (CQ G none Bp A) ([.ref z, .ref o0] : List Value).toArray s 0 0 A) (F0 m 22 ls []) := by
    intro H locs hP hD hS ls hl
    refine lv_aload_n hx hb d_Fu_findRound_22 rfl (lv_at hl 1 rfl) ?_
    refine va_getN (D := G) (ci := 0) (v := .int o0_cap) (C := "YieldDesk$Basin") (T := F_Ba) (N := 10) hx hb hB fi_Ba hown hE.1 hP 2 rfl rfl 4 (by decide) (va_Nw.use rfl (hE.2.1.1 _ (List.mem_of_getElem? (i := 6) rfl))) (fun _ h9 => h9) rfl d_Fu_findRound_23 ?_
    refine lv_istore_n (lv' := [(2, .int o0_cap), (0, .ref z), (1, .ref o0)]) hx hb d_Fu_findRound_26 rfl hl (by decide) rfl (fun ls hl => ?_)
    refine lv_iconst (v := (0 : Int32)) hx hb d_Fu_findRound_27 (by decide) ?_
    refine lv_istore_n (lv' := [(3, .int (0 : Int32)), (2, .int o0_cap), (0, .ref z), (1, .ref o0)]) hx hb d_Fu_findRound_28 rfl hl (by decide) rfl (fun ls hl => ?_)
    obtain ⟨z8, hz8, hf⟩ := obn hf
    have K5 : ∀ (H : Heap) (locs : List Loc), va_P G classes [(z, .inr (2, [.ref z_multipleAtVolume_a, .int z_roundStart, .int z_roundLength, .int z8.2.2.1])), (z_multipleAtVolume_a, .inl (cy 0, 1000, .inl z8.2.2.2)), (o0, .inr (0, [.ref o0_inflows_a, .ref o0_losses_a, .int o0_periods, .int o0_draft, .int o0_cap, .int o0_time, .int o0_volume, .int o0_fails, .int o0_lacking, .int o0_spilt])), (o0_inflows_a, .inl (cy 0, 12, .inl o0_inflows)), (o0_losses_a, .inl (cy 0, 10, .inl o0_losses))] H → va_D A [(z, .inr (2, [.ref z_multipleAtVolume_a, .int z_roundStart, .int z_roundLength, .int z8.2.2.1])), (z_multipleAtVolume_a, .inl (cy 0, 1000, .inl z8.2.2.2)), (o0, .inr (0, [.ref o0_inflows_a, .ref o0_losses_a, .int o0_periods, .int o0_draft, .int o0_cap, .int o0_time, .int o0_volume, .int o0_fails, .int o0_lacking, .int o0_spilt])), (o0_inflows_a, .inl (cy 0, 12, .inl o0_inflows)), (o0_losses_a, .inl (cy 0, 10, .inl o0_losses))] → va_S A s.heap H locs → ∀ (ls : Array Slot), lv_has ls 5 [(0, .ref z), (1, .ref o0), (2, .int z8.1), (3, .int z8.2.1)] → W p l e (RM 5 0 0) s m ([.ref z, .ref o0] : List Value).toArray below meth c H locs 0 0 (MQ below (CQ G none Bp A) ([.ref z, .ref o0] : List Value).toArray s 0 0 A) (F0 m 64 ls []) := by
      intro H locs hP hD hS ls hl
      refine lv_aload_n hx hb d_Fu_findRound_64 rfl (lv_at hl 0 rfl) ?_
      refine lv_aload_n hx hb d_Fu_findRound_65 rfl (lv_at hl 0 rfl) ?_
      refine lv_iload_n hx hb d_Fu_findRound_66 rfl (lv_at hl 2 rfl) ?_
      obtain ⟨z9, hz9, hf⟩ := obn hf
      refine x_V (As := [.int z8.1]) (rest := [.ref z]) (wc := [(z, .inr (2, [.ref z_multipleAtVolume_a, .int z_roundStart, .int z_roundLength, .int z8.2.2.1])), (z_multipleAtVolume_a, .inl (cy 0, 1000, .inl z8.2.2.2))]) (wr := [(o0, .inr (0, [.ref o0_inflows_a, .ref o0_losses_a, .int o0_periods, .int o0_draft, .int o0_cap, .int o0_time, .int o0_volume, .int o0_fails, .int o0_lacking, .int o0_spilt])), (o0_inflows_a, .inl (cy 0, 12, .inl o0_inflows)), (o0_losses_a, .inl (cy 0, 10, .inl o0_losses))]) (t_Fu_multipleOf l G cy kz N0  z z_roundStart z_roundLength z8.2.2.1 z_multipleAtVolume_a z8.2.2.2 z8.1 z9 hz9 (fun w => w = [(z, .inr (2, [.ref z_multipleAtVolume_a, .int z_roundStart, .int z_roundLength, .int z8.2.2.1])), (z_multipleAtVolume_a, .inl (cy 0, 1000, .inl z8.2.2.2))]) rfl) hx hb hml hown hB hE hN hNA m_505 m_507 mS_Fu_multipleOf m_7 m_508 hdV_Fu_multipleOf ⟨Nat.le_of_ble_eq_true rfl, Nat.le_of_ble_eq_true rfl, Nat.le_of_ble_eq_true rfl, Nat.le_of_ble_eq_true rfl⟩ hP hD hS hA 0 2 rfl rfl rfl [0, 1] [2, 3, 4] rfl rfl (by decide) (by decide) hl.1 rfl (Nat.le_of_ble_eq_true rfl) d_Fu_findRound_67 (fun _ H locs hw hP hD hS => ?_)
      subst hw
      replace hP : va_P G classes [(z, .inr (2, [.ref z_multipleAtVolume_a, .int z_roundStart, .int z_roundLength, .int z8.2.2.1])), (z_multipleAtVolume_a, .inl (cy 0, 1000, .inl z8.2.2.2)), (o0, .inr (0, [.ref o0_inflows_a, .ref o0_losses_a, .int o0_periods, .int o0_draft, .int o0_cap, .int o0_time, .int o0_volume, .int o0_fails, .int o0_lacking, .int o0_spilt])), (o0_inflows_a, .inl (cy 0, 12, .inl o0_inflows)), (o0_losses_a, .inl (cy 0, 10, .inl o0_losses))] H := hP.sub [3, 4, 0, 1, 2] rfl
      replace hD : va_D A [(z, .inr (2, [.ref z_multipleAtVolume_a, .int z_roundStart, .int z_roundLength, .int z8.2.2.1])), (z_multipleAtVolume_a, .inl (cy 0, 1000, .inl z8.2.2.2)), (o0, .inr (0, [.ref o0_inflows_a, .ref o0_losses_a, .int o0_periods, .int o0_draft, .int o0_cap, .int o0_time, .int o0_volume, .int o0_fails, .int o0_lacking, .int o0_spilt])), (o0_inflows_a, .inl (cy 0, 12, .inl o0_inflows)), (o0_losses_a, .inl (cy 0, 10, .inl o0_losses))] := hD.sub [3, 4, 0, 1, 2] (by decide) rfl
      refine va_put (D := G) (ci := 2) (v := .int z9) (ty := .int) (C := "YieldDesk$FullRuns") (T := F_Fu) (N := 4) hx hb hB fi_Fu ft_Fu fo_Fu fn_Fu hown hE.1 hP hD hS 0 rfl rfl 1 (by decide) (hB _ m_161) (fun _ h9 => h9) rfl (by decide +kernel) rfl rfl (Nat.le_of_ble_eq_true rfl) d_Fu_findRound_70 (fun H locs hP hD hS => ?_)
      have hP : va_P G classes [(z, .inr (2, [.ref z_multipleAtVolume_a, .int z9, .int z_roundLength, .int z8.2.2.1])), (z_multipleAtVolume_a, .inl (cy 0, 1000, .inl z8.2.2.2)), (o0, .inr (0, [.ref o0_inflows_a, .ref o0_losses_a, .int o0_periods, .int o0_draft, .int o0_cap, .int o0_time, .int o0_volume, .int o0_fails, .int o0_lacking, .int o0_spilt])), (o0_inflows_a, .inl (cy 0, 12, .inl o0_inflows)), (o0_losses_a, .inl (cy 0, 10, .inl o0_losses))] H := hP
      have hD : va_D A [(z, .inr (2, [.ref z_multipleAtVolume_a, .int z9, .int z_roundLength, .int z8.2.2.1])), (z_multipleAtVolume_a, .inl (cy 0, 1000, .inl z8.2.2.2)), (o0, .inr (0, [.ref o0_inflows_a, .ref o0_losses_a, .int o0_periods, .int o0_draft, .int o0_cap, .int o0_time, .int o0_volume, .int o0_fails, .int o0_lacking, .int o0_spilt])), (o0_inflows_a, .inl (cy 0, 12, .inl o0_inflows)), (o0_losses_a, .inl (cy 0, 10, .inl o0_losses))] := hD
      refine lv_aload_n hx hb d_Fu_findRound_73 rfl (lv_at hl 0 rfl) ?_
      refine lv_iload_n hx hb d_Fu_findRound_74 rfl (lv_at hl 3 rfl) ?_
      refine lv_aload_n hx hb d_Fu_findRound_75 rfl (lv_at hl 0 rfl) ?_
      refine va_get (D := G) (ci := 2) (v := .int z9) (C := "YieldDesk$FullRuns") (T := F_Fu) (N := 4) hx hb hB fi_Fu hown hE.1 hP 0 rfl rfl 1 (by decide) (hB _ m_161) (fun _ h9 => h9) rfl d_Fu_findRound_76 ?_
      refine lv_isub hx hb d_Fu_findRound_79 ?_
      refine va_put (D := G) (ci := 2) (v := .int (z8.2.1 - z9)) (ty := .int) (C := "YieldDesk$FullRuns") (T := F_Fu) (N := 4) hx hb hB fi_Fu ft_Fu fo_Fu fn_Fu hown hE.1 hP hD hS 0 rfl rfl 2 (by decide) (hB _ m_163) (fun _ h9 => h9) rfl (by decide +kernel) rfl rfl (Nat.le_of_ble_eq_true rfl) d_Fu_findRound_80 (fun H locs hP hD hS => ?_)
      have hP : va_P G classes [(z, .inr (2, [.ref z_multipleAtVolume_a, .int z9, .int (z8.2.1 - z9), .int z8.2.2.1])), (z_multipleAtVolume_a, .inl (cy 0, 1000, .inl z8.2.2.2)), (o0, .inr (0, [.ref o0_inflows_a, .ref o0_losses_a, .int o0_periods, .int o0_draft, .int o0_cap, .int o0_time, .int o0_volume, .int o0_fails, .int o0_lacking, .int o0_spilt])), (o0_inflows_a, .inl (cy 0, 12, .inl o0_inflows)), (o0_losses_a, .inl (cy 0, 10, .inl o0_losses))] H := hP
      have hD : va_D A [(z, .inr (2, [.ref z_multipleAtVolume_a, .int z9, .int (z8.2.1 - z9), .int z8.2.2.1])), (z_multipleAtVolume_a, .inl (cy 0, 1000, .inl z8.2.2.2)), (o0, .inr (0, [.ref o0_inflows_a, .ref o0_losses_a, .int o0_periods, .int o0_draft, .int o0_cap, .int o0_time, .int o0_volume, .int o0_fails, .int o0_lacking, .int o0_spilt])), (o0_inflows_a, .inl (cy 0, 12, .inl o0_inflows)), (o0_losses_a, .inl (cy 0, 10, .inl o0_losses))] := hD
      refine lv_aload_n hx hb d_Fu_findRound_83 rfl (lv_at hl 0 rfl) ?_
      refine lv_iconst (v := (0 : Int32)) hx hb d_Fu_findRound_84 (by decide) ?_
      refine va_put (D := G) (ci := 2) (v := .int (0 : Int32)) (ty := .int) (C := "YieldDesk$FullRuns") (T := F_Fu) (N := 4) hx hb hB fi_Fu ft_Fu fo_Fu fn_Fu hown hE.1 hP hD hS 0 rfl rfl 3 (by decide) (hB _ m_165) (fun _ h9 => h9) rfl (by decide +kernel) rfl rfl (Nat.le_of_ble_eq_true rfl) d_Fu_findRound_85 (fun H locs hP hD hS => ?_)
      have hP : va_P G classes [(z, .inr (2, [.ref z_multipleAtVolume_a, .int z9, .int (z8.2.1 - z9), .int (0 : Int32)])), (z_multipleAtVolume_a, .inl (cy 0, 1000, .inl z8.2.2.2)), (o0, .inr (0, [.ref o0_inflows_a, .ref o0_losses_a, .int o0_periods, .int o0_draft, .int o0_cap, .int o0_time, .int o0_volume, .int o0_fails, .int o0_lacking, .int o0_spilt])), (o0_inflows_a, .inl (cy 0, 12, .inl o0_inflows)), (o0_losses_a, .inl (cy 0, 10, .inl o0_losses))] H := hP
      have hD : va_D A [(z, .inr (2, [.ref z_multipleAtVolume_a, .int z9, .int (z8.2.1 - z9), .int (0 : Int32)])), (z_multipleAtVolume_a, .inl (cy 0, 1000, .inl z8.2.2.2)), (o0, .inr (0, [.ref o0_inflows_a, .ref o0_losses_a, .int o0_periods, .int o0_draft, .int o0_cap, .int o0_time, .int o0_volume, .int o0_fails, .int o0_lacking, .int o0_spilt])), (o0_inflows_a, .inl (cy 0, 12, .inl o0_inflows)), (o0_losses_a, .inl (cy 0, 10, .inl o0_losses))] := hD
      refine lv_iconst (v := (0 : Int32)) hx hb d_Fu_findRound_88 (by decide) ?_
      refine lv_istore (lv' := [(4, .int (0 : Int32)), (0, .ref z), (1, .ref o0), (2, .int z8.1), (3, .int z8.2.1)]) hx hb d_Fu_findRound_89 hl (by decide) rfl (fun ls hl => ?_)
      obtain ⟨z13, hz13, hf⟩ := obn hf
      have K10 : ∀ (H : Heap) (locs : List Loc), va_P G classes [(z, .inr (2, [.ref z_multipleAtVolume_a, .int z9, .int (z8.2.1 - z9), .int z13.2.2])), (z_multipleAtVolume_a, .inl (cy 0, 1000, .inl z8.2.2.2)), (o0, .inr (0, [.ref o0_inflows_a, .ref o0_losses_a, .int o0_periods, .int o0_draft, .int o0_cap, .int o0_time, .int o0_volume, .int o0_fails, .int o0_lacking, .int o0_spilt])), (o0_inflows_a, .inl (cy 0, 12, .inl o0_inflows)), (o0_losses_a, .inl (cy 0, 10, .inl o0_losses))] H → va_D A [(z, .inr (2, [.ref z_multipleAtVolume_a, .int z9, .int (z8.2.1 - z9), .int z13.2.2])), (z_multipleAtVolume_a, .inl (cy 0, 1000, .inl z8.2.2.2)), (o0, .inr (0, [.ref o0_inflows_a, .ref o0_losses_a, .int o0_periods, .int o0_draft, .int o0_cap, .int o0_time, .int o0_volume, .int o0_fails, .int o0_lacking, .int o0_spilt])), (o0_inflows_a, .inl (cy 0, 12, .inl o0_inflows)), (o0_losses_a, .inl (cy 0, 10, .inl o0_losses))] → va_S A s.heap H locs → ∀ (ls : Array Slot), lv_has ls 5 [(0, .ref z), (1, .ref o0), (2, .int z13.1), (3, .int z8.2.1), (4, .int z13.2.1)] → W p l e (RM 5 0 0) s m ([.ref z, .ref o0] : List Value).toArray below meth c H locs 0 0 (MQ below (CQ G none Bp A) ([.ref z, .ref o0] : List Value).toArray s 0 0 A) (F0 m 113 ls []) := by
        intro H locs hP hD hS ls hl
        obtain rfl := Option.some.inj hf
        exact W.vret hx hb hr (x_ret hP hD hS hBp) hS.2.2 d_Fu_findRound_113
      clear hf
      have L12 : ∀ (n : Nat) (i2_91 : Int32) (i4_91 : Int32) (z_roundFails_91 : Int32), f_Fu_findRound_L91 o0_periods o0_draft o0_cap o0_inflows o0_losses z8 z9 n i2_91 i4_91 z_roundFails_91 = some z13 → ∀ (H : Heap) (locs : List Loc), va_P G classes [(z, .inr (2, [.ref z_multipleAtVolume_a, .int z9, .int (z8.2.1 - z9), .int z_roundFails_91])), (z_multipleAtVolume_a, .inl (cy 0, 1000, .inl z8.2.2.2)), (o0, .inr (0, [.ref o0_inflows_a, .ref o0_losses_a, .int o0_periods, .int o0_draft, .int o0_cap, .int o0_time, .int o0_volume, .int o0_fails, .int o0_lacking, .int o0_spilt])), (o0_inflows_a, .inl (cy 0, 12, .inl o0_inflows)), (o0_losses_a, .inl (cy 0, 10, .inl o0_losses))] H → va_D A [(z, .inr (2, [.ref z_multipleAtVolume_a, .int z9, .int (z8.2.1 - z9), .int z_roundFails_91])), (z_multipleAtVolume_a, .inl (cy 0, 1000, .inl z8.2.2.2)), (o0, .inr (0, [.ref o0_inflows_a, .ref o0_losses_a, .int o0_periods, .int o0_draft, .int o0_cap, .int o0_time, .int o0_volume, .int o0_fails, .int o0_lacking, .int o0_spilt])), (o0_inflows_a, .inl (cy 0, 12, .inl o0_inflows)), (o0_losses_a, .inl (cy 0, 10, .inl o0_losses))] → va_S A s.heap H locs → ∀ (ls : Array Slot), lv_has ls 5 [(0, .ref z), (1, .ref o0), (2, .int i2_91), (3, .int z8.2.1), (4, .int i4_91)] → W p l e (RM 5 0 0) s m ([.ref z, .ref o0] : List Value).toArray below meth c H locs 0 0 (MQ below (CQ G none Bp A) ([.ref z, .ref o0] : List Value).toArray s 0 0 A) (F0 m 91 ls []) := by
        intro n
        induction n with
        | zero => intro i2_91 i4_91 z_roundFails_91 hf; exact absurd ((f_Fu_findRound_L91_z o0_periods o0_draft o0_cap o0_inflows o0_losses z8 z9 i2_91 i4_91 z_roundFails_91).symm.trans hf) (by intro h; cases h)
        | succ n ih =>
          intro i2_91 i4_91 z_roundFails_91 hf H locs hP hD hS ls hl
          replace hf := (f_Fu_findRound_L91_s o0_periods o0_draft o0_cap o0_inflows o0_losses z8 z9 n i2_91 i4_91 z_roundFails_91).symm.trans hf
          refine lv_iload hx hb d_Fu_findRound_91 (lv_at hl 4 rfl) ?_
          refine lv_aload_n hx hb d_Fu_findRound_93 rfl (lv_at hl 0 rfl) ?_
          refine va_get (D := G) (ci := 2) (v := .int (z8.2.1 - z9)) (C := "YieldDesk$FullRuns") (T := F_Fu) (N := 4) hx hb hB fi_Fu hown hE.1 hP 0 rfl rfl 2 (by decide) (hB _ m_163) (fun _ h9 => h9) rfl d_Fu_findRound_94 ?_
          refine lv_icmp_ge (tgt := 113) hx hb d_Fu_findRound_97 (by decide) (fun hc14 => ?_) (fun hc14 => ?_)
          · replace hf := iteP hc14 hf
            obtain rfl := Option.some.inj hf
            exact K10 _ _ hP hD hS _ (lv_sub hl [0, 1, 2, 3, 4] rfl)
          · replace hf := iteN hc14 hf
            refine lv_aload_n hx hb d_Fu_findRound_100 rfl (lv_at hl 0 rfl) ?_
            refine lv_aload_n hx hb d_Fu_findRound_101 rfl (lv_at hl 1 rfl) ?_
            refine lv_iload_n hx hb d_Fu_findRound_102 rfl (lv_at hl 2 rfl) ?_
            obtain ⟨z15, hz15, hf⟩ := obn hf
            refine x_V (As := [.ref o0, .int i2_91]) (rest := []) (wc := [(z, .inr (2, [.ref z_multipleAtVolume_a, .int z9, .int (z8.2.1 - z9), .int z_roundFails_91])), (z_multipleAtVolume_a, .inl (cy 0, 1000, .inl z8.2.2.2)), (o0, .inr (0, [.ref o0_inflows_a, .ref o0_losses_a, .int o0_periods, .int o0_draft, .int o0_cap, .int o0_time, .int o0_volume, .int o0_fails, .int o0_lacking, .int o0_spilt])), (o0_inflows_a, .inl (cy 0, 12, .inl o0_inflows)), (o0_losses_a, .inl (cy 0, 10, .inl o0_losses))]) (wr := []) (t_Fu_volumeAfterAll l G cy kz N0  z z9 (z8.2.1 - z9) z_roundFails_91 z_multipleAtVolume_a z8.2.2.2 o0 o0_periods o0_draft o0_cap o0_time o0_volume o0_fails o0_lacking o0_spilt o0_inflows_a o0_inflows o0_losses_a o0_losses i2_91 z15 hz15 (fun w => w = [(z, .inr (2, [.ref z_multipleAtVolume_a, .int z9, .int (z8.2.1 - z9), .int z15.2])), (z_multipleAtVolume_a, .inl (cy 0, 1000, .inl z8.2.2.2)), (o0, .inr (0, [.ref o0_inflows_a, .ref o0_losses_a, .int o0_periods, .int o0_draft, .int o0_cap, .int o0_time, .int o0_volume, .int o0_fails, .int o0_lacking, .int o0_spilt])), (o0_inflows_a, .inl (cy 0, 12, .inl o0_inflows)), (o0_losses_a, .inl (cy 0, 10, .inl o0_losses))]) rfl) hx hb hml hown hB hE hN hNA m_514 m_516 mS_Fu_volumeAfterAll m_7 m_517 hdV_Fu_volumeAfterAll ⟨Nat.le_of_ble_eq_true rfl, Nat.le_of_ble_eq_true rfl, Nat.le_of_ble_eq_true rfl, Nat.le_of_ble_eq_true rfl⟩ hP hD hS hA 0 2 rfl rfl rfl [0, 1, 2, 3, 4] [] rfl rfl (by decide) (by decide) hl.1 rfl (Nat.le_of_ble_eq_true rfl) d_Fu_findRound_103 (fun _ H locs hw hP hD hS => ?_)
            subst hw
            replace hP : va_P G classes [(z, .inr (2, [.ref z_multipleAtVolume_a, .int z9, .int (z8.2.1 - z9), .int z15.2])), (z_multipleAtVolume_a, .inl (cy 0, 1000, .inl z8.2.2.2)), (o0, .inr (0, [.ref o0_inflows_a, .ref o0_losses_a, .int o0_periods, .int o0_draft, .int o0_cap, .int o0_time, .int o0_volume, .int o0_fails, .int o0_lacking, .int o0_spilt])), (o0_inflows_a, .inl (cy 0, 12, .inl o0_inflows)), (o0_losses_a, .inl (cy 0, 10, .inl o0_losses))] H := hP.sub [0, 1, 2, 3, 4] rfl
            replace hD : va_D A [(z, .inr (2, [.ref z_multipleAtVolume_a, .int z9, .int (z8.2.1 - z9), .int z15.2])), (z_multipleAtVolume_a, .inl (cy 0, 1000, .inl z8.2.2.2)), (o0, .inr (0, [.ref o0_inflows_a, .ref o0_losses_a, .int o0_periods, .int o0_draft, .int o0_cap, .int o0_time, .int o0_volume, .int o0_fails, .int o0_lacking, .int o0_spilt])), (o0_inflows_a, .inl (cy 0, 12, .inl o0_inflows)), (o0_losses_a, .inl (cy 0, 10, .inl o0_losses))] := hD.sub [0, 1, 2, 3, 4] (by decide) rfl
            refine lv_istore_n (lv' := [(2, .int z15.1), (0, .ref z), (1, .ref o0), (3, .int z8.2.1), (4, .int i4_91)]) hx hb d_Fu_findRound_106 rfl hl (by decide) rfl (fun ls hl => ?_)
            refine lv_iinc (v := (i4_91 + (1 : Int32))) (lv' := [(4, .int (i4_91 + (1 : Int32))), (2, .int z15.1), (0, .ref z), (1, .ref o0), (3, .int z8.2.1)]) hx hb d_Fu_findRound_107 hl (k := 4) rfl rfl (by decide) rfl (fun ls hl => ?_)
            refine lv_goto (tgt := 91) hx hb d_Fu_findRound_110 (by decide) ?_
            exact ih z15.1 (i4_91 + (1 : Int32)) z15.2 hf _ _ hP hD hS _ (lv_sub hl [2, 3, 1, 4, 0] rfl)
      exact L12 FU z8.1 (0 : Int32) (0 : Int32) hz13 _ _ hP hD hS _ (lv_sub hl [1, 2, 3, 4, 0] rfl)
    clear hf
    have L7 : ∀ (n : Nat) (i2_29 : Int32) (i3_29 : Int32) (z_roundFails_29 : Int32) (z_multipleAtVolume_29 : Nat → Int32), f_Fu_findRound_L29 o0_periods o0_draft o0_cap o0_inflows o0_losses n i2_29 i3_29 z_roundFails_29 z_multipleAtVolume_29 = some z8 → ∀ (H : Heap) (locs : List Loc), va_P G classes [(z, .inr (2, [.ref z_multipleAtVolume_a, .int z_roundStart, .int z_roundLength, .int z_roundFails_29])), (z_multipleAtVolume_a, .inl (cy 0, 1000, .inl z_multipleAtVolume_29)), (o0, .inr (0, [.ref o0_inflows_a, .ref o0_losses_a, .int o0_periods, .int o0_draft, .int o0_cap, .int o0_time, .int o0_volume, .int o0_fails, .int o0_lacking, .int o0_spilt])), (o0_inflows_a, .inl (cy 0, 12, .inl o0_inflows)), (o0_losses_a, .inl (cy 0, 10, .inl o0_losses))] H → va_D A [(z, .inr (2, [.ref z_multipleAtVolume_a, .int z_roundStart, .int z_roundLength, .int z_roundFails_29])), (z_multipleAtVolume_a, .inl (cy 0, 1000, .inl z_multipleAtVolume_29)), (o0, .inr (0, [.ref o0_inflows_a, .ref o0_losses_a, .int o0_periods, .int o0_draft, .int o0_cap, .int o0_time, .int o0_volume, .int o0_fails, .int o0_lacking, .int o0_spilt])), (o0_inflows_a, .inl (cy 0, 12, .inl o0_inflows)), (o0_losses_a, .inl (cy 0, 10, .inl o0_losses))] → va_S A s.heap H locs → ∀ (ls : Array Slot), lv_has ls 5 [(0, .ref z), (1, .ref o0), (2, .int i2_29), (3, .int i3_29)] → W p l e (RM 5 0 0) s m ([.ref z, .ref o0] : List Value).toArray below meth c H locs 0 0 (MQ below (CQ G none Bp A) ([.ref z, .ref o0] : List Value).toArray s 0 0 A) (F0 m 29 ls []) := by
      intro n
      induction n with
      | zero => intro i2_29 i3_29 z_roundFails_29 z_multipleAtVolume_29 hf; exact absurd ((f_Fu_findRound_L29_z o0_periods o0_draft o0_cap o0_inflows o0_losses i2_29 i3_29 z_roundFails_29 z_multipleAtVolume_29).symm.trans hf) (by intro h; cases h)
      | succ n ih =>
        intro i2_29 i3_29 z_roundFails_29 z_multipleAtVolume_29 hf H locs hP hD hS ls hl
        replace hf := (f_Fu_findRound_L29_s o0_periods o0_draft o0_cap o0_inflows o0_losses n i2_29 i3_29 z_roundFails_29 z_multipleAtVolume_29).symm.trans hf
        refine lv_iload_n hx hb d_Fu_findRound_29 rfl (lv_at hl 3 rfl) ?_
        refine lv_sipush (v := (999 : Int32)) hx hb d_Fu_findRound_30 (by decide) ?_
        refine lv_icmp_gt (tgt := 64) hx hb d_Fu_findRound_33 (by decide) (fun hc16 => ?_) (fun hc16 => ?_)
        · replace hf := iteP hc16 hf
          obtain rfl := Option.some.inj hf
          exact K5 _ _ hP hD hS _ (lv_sub hl [0, 1, 2, 3] rfl)
        · replace hf := iteN hc16 hf
          refine lv_aload_n hx hb d_Fu_findRound_36 rfl (lv_at hl 0 rfl) ?_
          refine lv_iload_n hx hb d_Fu_findRound_37 rfl (lv_at hl 2 rfl) ?_
          obtain ⟨z17, hz17, hf⟩ := obn hf
          refine x_V (As := [.int i2_29]) (rest := []) (wc := [(z, .inr (2, [.ref z_multipleAtVolume_a, .int z_roundStart, .int z_roundLength, .int z_roundFails_29])), (z_multipleAtVolume_a, .inl (cy 0, 1000, .inl z_multipleAtVolume_29))]) (wr := [(o0, .inr (0, [.ref o0_inflows_a, .ref o0_losses_a, .int o0_periods, .int o0_draft, .int o0_cap, .int o0_time, .int o0_volume, .int o0_fails, .int o0_lacking, .int o0_spilt])), (o0_inflows_a, .inl (cy 0, 12, .inl o0_inflows)), (o0_losses_a, .inl (cy 0, 10, .inl o0_losses))]) (t_Fu_multipleOf l G cy kz N0  z z_roundStart z_roundLength z_roundFails_29 z_multipleAtVolume_a z_multipleAtVolume_29 i2_29 z17 hz17 (fun w => w = [(z, .inr (2, [.ref z_multipleAtVolume_a, .int z_roundStart, .int z_roundLength, .int z_roundFails_29])), (z_multipleAtVolume_a, .inl (cy 0, 1000, .inl z_multipleAtVolume_29))]) rfl) hx hb hml hown hB hE hN hNA m_505 m_507 mS_Fu_multipleOf m_7 m_508 hdV_Fu_multipleOf ⟨Nat.le_of_ble_eq_true rfl, Nat.le_of_ble_eq_true rfl, Nat.le_of_ble_eq_true rfl, Nat.le_of_ble_eq_true rfl⟩ hP hD hS hA 0 2 rfl rfl rfl [0, 1] [2, 3, 4] rfl rfl (by decide) (by decide) hl.1 rfl (Nat.le_of_ble_eq_true rfl) d_Fu_findRound_38 (fun _ H locs hw hP hD hS => ?_)
          subst hw
          replace hP : va_P G classes [(z, .inr (2, [.ref z_multipleAtVolume_a, .int z_roundStart, .int z_roundLength, .int z_roundFails_29])), (z_multipleAtVolume_a, .inl (cy 0, 1000, .inl z_multipleAtVolume_29)), (o0, .inr (0, [.ref o0_inflows_a, .ref o0_losses_a, .int o0_periods, .int o0_draft, .int o0_cap, .int o0_time, .int o0_volume, .int o0_fails, .int o0_lacking, .int o0_spilt])), (o0_inflows_a, .inl (cy 0, 12, .inl o0_inflows)), (o0_losses_a, .inl (cy 0, 10, .inl o0_losses))] H := hP.sub [3, 4, 0, 1, 2] rfl
          replace hD : va_D A [(z, .inr (2, [.ref z_multipleAtVolume_a, .int z_roundStart, .int z_roundLength, .int z_roundFails_29])), (z_multipleAtVolume_a, .inl (cy 0, 1000, .inl z_multipleAtVolume_29)), (o0, .inr (0, [.ref o0_inflows_a, .ref o0_losses_a, .int o0_periods, .int o0_draft, .int o0_cap, .int o0_time, .int o0_volume, .int o0_fails, .int o0_lacking, .int o0_spilt])), (o0_inflows_a, .inl (cy 0, 12, .inl o0_inflows)), (o0_losses_a, .inl (cy 0, 10, .inl o0_losses))] := hD.sub [3, 4, 0, 1, 2] (by decide) rfl
          refine lv_iconst (v := (-1 : Int32)) hx hb d_Fu_findRound_41 (by decide) ?_
          refine lv_icmp_ne (tgt := 64) hx hb d_Fu_findRound_42 (by decide) (fun hc18 => ?_) (fun hc18 => ?_)
          · replace hf := iteN hc18 hf
            obtain rfl := Option.some.inj hf
            exact K5 _ _ hP hD hS _ (lv_sub hl [0, 1, 2, 3] rfl)
          · replace hf := iteP hc18 hf
            refine lv_aload_n hx hb d_Fu_findRound_45 rfl (lv_at hl 0 rfl) ?_
            refine lv_iload_n hx hb d_Fu_findRound_46 rfl (lv_at hl 2 rfl) ?_
            refine lv_iload_n hx hb d_Fu_findRound_47 rfl (lv_at hl 3 rfl) ?_
            obtain ⟨z19, hz19, hf⟩ := obn hf
            refine x_V (As := [.int i2_29, .int i3_29]) (rest := []) (wc := [(z, .inr (2, [.ref z_multipleAtVolume_a, .int z_roundStart, .int z_roundLength, .int z_roundFails_29])), (z_multipleAtVolume_a, .inl (cy 0, 1000, .inl z_multipleAtVolume_29))]) (wr := [(o0, .inr (0, [.ref o0_inflows_a, .ref o0_losses_a, .int o0_periods, .int o0_draft, .int o0_cap, .int o0_time, .int o0_volume, .int o0_fails, .int o0_lacking, .int o0_spilt])), (o0_inflows_a, .inl (cy 0, 12, .inl o0_inflows)), (o0_losses_a, .inl (cy 0, 10, .inl o0_losses))]) (t_Fu_noteMultiple l G cy kz N0  z z_roundStart z_roundLength z_roundFails_29 z_multipleAtVolume_a z_multipleAtVolume_29 i2_29 i3_29 z19 hz19 (fun w => w = [(z, .inr (2, [.ref z_multipleAtVolume_a, .int z_roundStart, .int z_roundLength, .int z_roundFails_29])), (z_multipleAtVolume_a, .inl (cy 0, 1000, .inl z19))]) rfl) hx hb hml hown hB hE hN hNA m_510 m_512 mS_Fu_noteMultiple m_7 m_513 hdV_Fu_noteMultiple ⟨Nat.le_of_ble_eq_true rfl, Nat.le_of_ble_eq_true rfl, Nat.le_of_ble_eq_true rfl, Nat.le_of_ble_eq_true rfl⟩ hP hD hS hA 0 2 rfl rfl rfl [0, 1] [2, 3, 4] rfl rfl (by decide) (by decide) hl.1 rfl (Nat.le_of_ble_eq_true rfl) d_Fu_findRound_48 (fun _ H locs hw hP hD hS => ?_)
            subst hw
            replace hP : va_P G classes [(z, .inr (2, [.ref z_multipleAtVolume_a, .int z_roundStart, .int z_roundLength, .int z_roundFails_29])), (z_multipleAtVolume_a, .inl (cy 0, 1000, .inl z19)), (o0, .inr (0, [.ref o0_inflows_a, .ref o0_losses_a, .int o0_periods, .int o0_draft, .int o0_cap, .int o0_time, .int o0_volume, .int o0_fails, .int o0_lacking, .int o0_spilt])), (o0_inflows_a, .inl (cy 0, 12, .inl o0_inflows)), (o0_losses_a, .inl (cy 0, 10, .inl o0_losses))] H := hP.sub [3, 4, 0, 1, 2] rfl
            replace hD : va_D A [(z, .inr (2, [.ref z_multipleAtVolume_a, .int z_roundStart, .int z_roundLength, .int z_roundFails_29])), (z_multipleAtVolume_a, .inl (cy 0, 1000, .inl z19)), (o0, .inr (0, [.ref o0_inflows_a, .ref o0_losses_a, .int o0_periods, .int o0_draft, .int o0_cap, .int o0_time, .int o0_volume, .int o0_fails, .int o0_lacking, .int o0_spilt])), (o0_inflows_a, .inl (cy 0, 12, .inl o0_inflows)), (o0_losses_a, .inl (cy 0, 10, .inl o0_losses))] := hD.sub [3, 4, 0, 1, 2] (by decide) rfl
            refine lv_aload_n hx hb d_Fu_findRound_51 rfl (lv_at hl 0 rfl) ?_
            refine lv_aload_n hx hb d_Fu_findRound_52 rfl (lv_at hl 1 rfl) ?_
            refine lv_iload_n hx hb d_Fu_findRound_53 rfl (lv_at hl 2 rfl) ?_
            obtain ⟨z20, hz20, hf⟩ := obn hf
            refine x_V (As := [.ref o0, .int i2_29]) (rest := []) (wc := [(z, .inr (2, [.ref z_multipleAtVolume_a, .int z_roundStart, .int z_roundLength, .int z_roundFails_29])), (z_multipleAtVolume_a, .inl (cy 0, 1000, .inl z19)), (o0, .inr (0, [.ref o0_inflows_a, .ref o0_losses_a, .int o0_periods, .int o0_draft, .int o0_cap, .int o0_time, .int o0_volume, .int o0_fails, .int o0_lacking, .int o0_spilt])), (o0_inflows_a, .inl (cy 0, 12, .inl o0_inflows)), (o0_losses_a, .inl (cy 0, 10, .inl o0_losses))]) (wr := []) (t_Fu_volumeAfterAll l G cy kz N0  z z_roundStart z_roundLength z_roundFails_29 z_multipleAtVolume_a z19 o0 o0_periods o0_draft o0_cap o0_time o0_volume o0_fails o0_lacking o0_spilt o0_inflows_a o0_inflows o0_losses_a o0_losses i2_29 z20 hz20 (fun w => w = [(z, .inr (2, [.ref z_multipleAtVolume_a, .int z_roundStart, .int z_roundLength, .int z20.2])), (z_multipleAtVolume_a, .inl (cy 0, 1000, .inl z19)), (o0, .inr (0, [.ref o0_inflows_a, .ref o0_losses_a, .int o0_periods, .int o0_draft, .int o0_cap, .int o0_time, .int o0_volume, .int o0_fails, .int o0_lacking, .int o0_spilt])), (o0_inflows_a, .inl (cy 0, 12, .inl o0_inflows)), (o0_losses_a, .inl (cy 0, 10, .inl o0_losses))]) rfl) hx hb hml hown hB hE hN hNA m_514 m_516 mS_Fu_volumeAfterAll m_7 m_517 hdV_Fu_volumeAfterAll ⟨Nat.le_of_ble_eq_true rfl, Nat.le_of_ble_eq_true rfl, Nat.le_of_ble_eq_true rfl, Nat.le_of_ble_eq_true rfl⟩ hP hD hS hA 0 2 rfl rfl rfl [0, 1, 2, 3, 4] [] rfl rfl (by decide) (by decide) hl.1 rfl (Nat.le_of_ble_eq_true rfl) d_Fu_findRound_54 (fun _ H locs hw hP hD hS => ?_)
            subst hw
            replace hP : va_P G classes [(z, .inr (2, [.ref z_multipleAtVolume_a, .int z_roundStart, .int z_roundLength, .int z20.2])), (z_multipleAtVolume_a, .inl (cy 0, 1000, .inl z19)), (o0, .inr (0, [.ref o0_inflows_a, .ref o0_losses_a, .int o0_periods, .int o0_draft, .int o0_cap, .int o0_time, .int o0_volume, .int o0_fails, .int o0_lacking, .int o0_spilt])), (o0_inflows_a, .inl (cy 0, 12, .inl o0_inflows)), (o0_losses_a, .inl (cy 0, 10, .inl o0_losses))] H := hP.sub [0, 1, 2, 3, 4] rfl
            replace hD : va_D A [(z, .inr (2, [.ref z_multipleAtVolume_a, .int z_roundStart, .int z_roundLength, .int z20.2])), (z_multipleAtVolume_a, .inl (cy 0, 1000, .inl z19)), (o0, .inr (0, [.ref o0_inflows_a, .ref o0_losses_a, .int o0_periods, .int o0_draft, .int o0_cap, .int o0_time, .int o0_volume, .int o0_fails, .int o0_lacking, .int o0_spilt])), (o0_inflows_a, .inl (cy 0, 12, .inl o0_inflows)), (o0_losses_a, .inl (cy 0, 10, .inl o0_losses))] := hD.sub [0, 1, 2, 3, 4] (by decide) rfl
            refine lv_istore_n (lv' := [(2, .int z20.1), (0, .ref z), (1, .ref o0), (3, .int i3_29)]) hx hb d_Fu_findRound_57 rfl hl (by decide) rfl (fun ls hl => ?_)
            refine lv_iinc (v := (i3_29 + (1 : Int32))) (lv' := [(3, .int (i3_29 + (1 : Int32))), (2, .int z20.1), (0, .ref z), (1, .ref o0)]) hx hb d_Fu_findRound_58 hl (k := 3) rfl rfl (by decide) rfl (fun ls hl => ?_)
            refine lv_goto (tgt := 29) hx hb d_Fu_findRound_61 (by decide) ?_
            exact ih z20.1 (i3_29 + (1 : Int32)) z20.2 z19 hf _ _ hP hD hS _ (lv_sub hl [2, 3, 1, 0] rfl)
    exact L7 FU o0_cap (0 : Int32) z_roundFails z4.2 hz8 _ _ hP hD hS _ (lv_sub hl [2, 3, 1, 0] rfl)
  clear hf
  have L3 : ∀ (n : Nat) (i2_2 : Int32) (z_multipleAtVolume_2 : Nat → Int32), f_Fu_findRound_L2 n i2_2 z_multipleAtVolume_2 = some z4 → ∀ (H : Heap) (locs : List Loc), va_P G classes [(z, .inr (2, [.ref z_multipleAtVolume_a, .int z_roundStart, .int z_roundLength, .int z_roundFails])), (z_multipleAtVolume_a, .inl (cy 0, 1000, .inl z_multipleAtVolume_2)), (o0, .inr (0, [.ref o0_inflows_a, .ref o0_losses_a, .int o0_periods, .int o0_draft, .int o0_cap, .int o0_time, .int o0_volume, .int o0_fails, .int o0_lacking, .int o0_spilt])), (o0_inflows_a, .inl (cy 0, 12, .inl o0_inflows)), (o0_losses_a, .inl (cy 0, 10, .inl o0_losses))] H → va_D A [(z, .inr (2, [.ref z_multipleAtVolume_a, .int z_roundStart, .int z_roundLength, .int z_roundFails])), (z_multipleAtVolume_a, .inl (cy 0, 1000, .inl z_multipleAtVolume_2)), (o0, .inr (0, [.ref o0_inflows_a, .ref o0_losses_a, .int o0_periods, .int o0_draft, .int o0_cap, .int o0_time, .int o0_volume, .int o0_fails, .int o0_lacking, .int o0_spilt])), (o0_inflows_a, .inl (cy 0, 12, .inl o0_inflows)), (o0_losses_a, .inl (cy 0, 10, .inl o0_losses))] → va_S A s.heap H locs → ∀ (ls : Array Slot), lv_has ls 5 [(0, .ref z), (1, .ref o0), (2, .int i2_2)] → W p l e (RM 5 0 0) s m ([.ref z, .ref o0] : List Value).toArray below meth c H locs 0 0 (MQ below (CQ G none Bp A) ([.ref z, .ref o0] : List Value).toArray s 0 0 A) (F0 m 2 ls []) := by
    intro n
    induction n with
    | zero => intro i2_2 z_multipleAtVolume_2 hf; exact absurd ((f_Fu_findRound_L2_z  i2_2 z_multipleAtVolume_2).symm.trans hf) (by intro h; cases h)
    | succ n ih =>
      intro i2_2 z_multipleAtVolume_2 hf H locs hP hD hS ls hl
      replace hf := (f_Fu_findRound_L2_s  n i2_2 z_multipleAtVolume_2).symm.trans hf
      refine lv_iload_n hx hb d_Fu_findRound_2 rfl (lv_at hl 2 rfl) ?_
      refine lv_sipush (v := (999 : Int32)) hx hb d_Fu_findRound_3 (by decide) ?_
      refine lv_icmp_gt (tgt := 22) hx hb d_Fu_findRound_6 (by decide) (fun hc21 => ?_) (fun hc21 => ?_)
      · replace hf := iteP hc21 hf
        obtain rfl := Option.some.inj hf
        exact K1 _ _ hP hD hS _ (lv_sub hl [0, 1, 2] rfl)
      · replace hf := iteN hc21 hf
        refine lv_aload_n hx hb d_Fu_findRound_9 rfl (lv_at hl 0 rfl) ?_
        refine va_get (D := G) (ci := 2) (v := .ref z_multipleAtVolume_a) (C := "YieldDesk$FullRuns") (T := F_Fu) (N := 4) hx hb hB fi_Fu hown hE.1 hP 0 rfl rfl 0 (by decide) (hB _ m_160) (fun _ h9 => h9) rfl d_Fu_findRound_10 ?_
        refine lv_iload_n hx hb d_Fu_findRound_13 rfl (lv_at hl 2 rfl) ?_
        refine lv_iconst (v := (-1 : Int32)) hx hb d_Fu_findRound_14 (by decide) ?_
        obtain ⟨hg22, hf⟩ := gdn hf
        refine va_iast hx hb hE.1 hP hD hS 1 0 rfl rfl hg22 d_Fu_findRound_15 (fun H locs hP hD hS => ?_)
        have hP : va_P G classes [(z, .inr (2, [.ref z_multipleAtVolume_a, .int z_roundStart, .int z_roundLength, .int z_roundFails])), (z_multipleAtVolume_a, .inl (cy 0, 1000, .inl (upd z_multipleAtVolume_2 i2_2.toNatClampNeg (-1 : Int32)))), (o0, .inr (0, [.ref o0_inflows_a, .ref o0_losses_a, .int o0_periods, .int o0_draft, .int o0_cap, .int o0_time, .int o0_volume, .int o0_fails, .int o0_lacking, .int o0_spilt])), (o0_inflows_a, .inl (cy 0, 12, .inl o0_inflows)), (o0_losses_a, .inl (cy 0, 10, .inl o0_losses))] H := hP
        have hD : va_D A [(z, .inr (2, [.ref z_multipleAtVolume_a, .int z_roundStart, .int z_roundLength, .int z_roundFails])), (z_multipleAtVolume_a, .inl (cy 0, 1000, .inl (upd z_multipleAtVolume_2 i2_2.toNatClampNeg (-1 : Int32)))), (o0, .inr (0, [.ref o0_inflows_a, .ref o0_losses_a, .int o0_periods, .int o0_draft, .int o0_cap, .int o0_time, .int o0_volume, .int o0_fails, .int o0_lacking, .int o0_spilt])), (o0_inflows_a, .inl (cy 0, 12, .inl o0_inflows)), (o0_losses_a, .inl (cy 0, 10, .inl o0_losses))] := hD
        refine lv_iinc (v := (i2_2 + (1 : Int32))) (lv' := [(2, .int (i2_2 + (1 : Int32))), (0, .ref z), (1, .ref o0)]) hx hb d_Fu_findRound_16 hl (k := 2) rfl rfl (by decide) rfl (fun ls hl => ?_)
        refine lv_goto (tgt := 2) hx hb d_Fu_findRound_19 (by decide) ?_
        exact ih (i2_2 + (1 : Int32)) (upd z_multipleAtVolume_2 i2_2.toNatClampNeg (-1 : Int32)) hf _ _ hP hD hS _ (lv_sub hl [1, 2, 0] rfl)
  exact L3 FU (0 : Int32) z_multipleAtVolume hz4 _ _ hP hD hS _ (lv_sub hl [1, 2, 0] rfl)
set_option maxHeartbeats 4000000 in
set_option maxRecDepth 100000 in
theorem t_Fu_volumeBehind (l : Launch) (G : va_G) (cy : Nat → ClassId) (kz : Nat → Nat) (N0 : Nat) (z : Nat) (z_roundStart : Int32) (z_roundLength : Int32) (z_roundFails : Int32) (z_multipleAtVolume_a : Nat) (z_multipleAtVolume : Nat → Int32) (o0 : Nat) (o0_periods : Int32) (o0_draft : Int32) (o0_cap : Int32) (o0_time : Int32) (o0_volume : Int32) (o0_fails : Int32) (o0_lacking : Int32) (o0_spilt : Int32) (o0_inflows_a : Nat) (o0_inflows : Nat → Int32) (o0_losses_a : Nat) (o0_losses : Nat → Int32) (p1 : Int32) (out : Int32) (h0 : f_Fu_volumeBehind o0_periods o0_draft o0_cap o0_inflows o0_losses p1 = some out) (Bp : va_W → Prop) (hBp : Bp [(z, .inr (2, [.ref z_multipleAtVolume_a, .int z_roundStart, .int z_roundLength, .int z_roundFails])), (z_multipleAtVolume_a, .inl (cy 0, 1000, .inl z_multipleAtVolume)), (o0, .inr (0, [.ref o0_inflows_a, .ref o0_losses_a, .int o0_periods, .int o0_draft, .int o0_cap, .int o0_time, .int o0_volume, .int o0_fails, .int o0_lacking, .int o0_spilt])), (o0_inflows_a, .inl (cy 0, 12, .inl o0_inflows)), (o0_losses_a, .inl (cy 0, 10, .inl o0_losses))]) : CT l G cy kz N0 y_Fu_volumeBehind b_Fu_volumeBehind 5 (some .int) 4 0 0 [.ref z, .ref o0, .int p1] [(z, .inr (2, [.ref z_multipleAtVolume_a, .int z_roundStart, .int z_roundLength, .int z_roundFails])), (z_multipleAtVolume_a, .inl (cy 0, 1000, .inl z_multipleAtVolume)), (o0, .inr (0, [.ref o0_inflows_a, .ref o0_losses_a, .int o0_periods, .int o0_draft, .int o0_cap, .int o0_time, .int o0_volume, .int o0_fails, .int o0_lacking, .int o0_spilt])), (o0_inflows_a, .inl (cy 0, 12, .inl o0_inflows)), (o0_losses_a, .inl (cy 0, 10, .inl o0_losses))] (some (.int out)) Bp := by
  refine CT.of (by decide) (Nat.le_of_ble_eq_true rfl) ?_
  intro p e s m below meth c A ls hx hb hr hml hB hown hlocks hnm hE hN hA hNA hP hD hS hl
  have hown : s.vm.findClass "YieldDesk$FullRuns" = some m.cls := hown
  have hl : lv_has ls 5 [(0, .ref z), (1, .ref o0), (2, .int p1)] := hl
  have hf := h0
  unfold f_Fu_volumeBehind at hf
  refine lv_aload_n hx hb d_Fu_volumeBehind_0 rfl (lv_at hl 1 rfl) ?_
  refine va_getN (D := G) (ci := 0) (v := .int o0_cap) (C := "YieldDesk$Basin") (T := F_Ba) (N := 10) hx hb hB fi_Ba hown hE.1 hP 2 rfl rfl 4 (by decide) (va_Nw.use rfl (hE.2.1.1 _ (List.mem_of_getElem? (i := 6) rfl))) (fun _ h9 => h9) rfl d_Fu_volumeBehind_1 ?_
  refine lv_istore_n (lv' := [(3, .int o0_cap), (0, .ref z), (1, .ref o0), (2, .int p1)]) hx hb d_Fu_volumeBehind_4 rfl hl (by decide) rfl (fun ls hl => ?_)
  refine lv_iconst (v := (0 : Int32)) hx hb d_Fu_volumeBehind_5 (by decide) ?_
  refine lv_istore (lv' := [(4, .int (0 : Int32)), (3, .int o0_cap), (0, .ref z), (1, .ref o0), (2, .int p1)]) hx hb d_Fu_volumeBehind_6 hl (by decide) rfl (fun ls hl => ?_)
  obtain ⟨z4, hz4, hf⟩ := obn hf
  have K1 : ∀ (H : Heap) (locs : List Loc), va_P G classes [(z, .inr (2, [.ref z_multipleAtVolume_a, .int z_roundStart, .int z_roundLength, .int z_roundFails])), (z_multipleAtVolume_a, .inl (cy 0, 1000, .inl z_multipleAtVolume)), (o0, .inr (0, [.ref o0_inflows_a, .ref o0_losses_a, .int o0_periods, .int o0_draft, .int o0_cap, .int o0_time, .int o0_volume, .int o0_fails, .int o0_lacking, .int o0_spilt])), (o0_inflows_a, .inl (cy 0, 12, .inl o0_inflows)), (o0_losses_a, .inl (cy 0, 10, .inl o0_losses))] H → va_D A [(z, .inr (2, [.ref z_multipleAtVolume_a, .int z_roundStart, .int z_roundLength, .int z_roundFails])), (z_multipleAtVolume_a, .inl (cy 0, 1000, .inl z_multipleAtVolume)), (o0, .inr (0, [.ref o0_inflows_a, .ref o0_losses_a, .int o0_periods, .int o0_draft, .int o0_cap, .int o0_time, .int o0_volume, .int o0_fails, .int o0_lacking, .int o0_spilt])), (o0_inflows_a, .inl (cy 0, 12, .inl o0_inflows)), (o0_losses_a, .inl (cy 0, 10, .inl o0_losses))] → va_S A s.heap H locs → ∀ (ls : Array Slot), lv_has ls 5 [(0, .ref z), (1, .ref o0), (2, .int p1), (3, .int z4.1), (4, .int z4.2)] → W p l e (RM 4 0 0) s m ([.ref z, .ref o0, .int p1] : List Value).toArray below meth c H locs 0 0 (MQ below (CQ G (some (.int out)) Bp A) ([.ref z, .ref o0, .int p1] : List Value).toArray s 0 0 A) (F0 m 39 ls []) := by
    intro H locs hP hD hS ls hl
    refine lv_iload_n hx hb d_Fu_volumeBehind_39 rfl (lv_at hl 3 rfl) ?_
    obtain rfl := Option.some.inj hf
    exact W.iret hx hb hr (x_ret hP hD hS hBp) hS.2.2 d_Fu_volumeBehind_40
  clear hf
  have L3 : ∀ (n : Nat) (i3_8 : Int32) (i4_8 : Int32), f_Fu_volumeBehind_L8 o0_periods o0_draft o0_cap o0_inflows o0_losses p1 n i3_8 i4_8 = some z4 → ∀ (H : Heap) (locs : List Loc), va_P G classes [(z, .inr (2, [.ref z_multipleAtVolume_a, .int z_roundStart, .int z_roundLength, .int z_roundFails])), (z_multipleAtVolume_a, .inl (cy 0, 1000, .inl z_multipleAtVolume)), (o0, .inr (0, [.ref o0_inflows_a, .ref o0_losses_a, .int o0_periods, .int o0_draft, .int o0_cap, .int o0_time, .int o0_volume, .int o0_fails, .int o0_lacking, .int o0_spilt])), (o0_inflows_a, .inl (cy 0, 12, .inl o0_inflows)), (o0_losses_a, .inl (cy 0, 10, .inl o0_losses))] H → va_D A [(z, .inr (2, [.ref z_multipleAtVolume_a, .int z_roundStart, .int z_roundLength, .int z_roundFails])), (z_multipleAtVolume_a, .inl (cy 0, 1000, .inl z_multipleAtVolume)), (o0, .inr (0, [.ref o0_inflows_a, .ref o0_losses_a, .int o0_periods, .int o0_draft, .int o0_cap, .int o0_time, .int o0_volume, .int o0_fails, .int o0_lacking, .int o0_spilt])), (o0_inflows_a, .inl (cy 0, 12, .inl o0_inflows)), (o0_losses_a, .inl (cy 0, 10, .inl o0_losses))] → va_S A s.heap H locs → ∀ (ls : Array Slot), lv_has ls 5 [(0, .ref z), (1, .ref o0), (2, .int p1), (3, .int i3_8), (4, .int i4_8)] → W p l e (RM 4 0 0) s m ([.ref z, .ref o0, .int p1] : List Value).toArray below meth c H locs 0 0 (MQ below (CQ G (some (.int out)) Bp A) ([.ref z, .ref o0, .int p1] : List Value).toArray s 0 0 A) (F0 m 8 ls []) := by
    intro n
    induction n with
    | zero => intro i3_8 i4_8 hf; exact absurd ((f_Fu_volumeBehind_L8_z o0_periods o0_draft o0_cap o0_inflows o0_losses p1 i3_8 i4_8).symm.trans hf) (by intro h; cases h)
    | succ n ih =>
      intro i3_8 i4_8 hf H locs hP hD hS ls hl
      replace hf := (f_Fu_volumeBehind_L8_s o0_periods o0_draft o0_cap o0_inflows o0_losses p1 n i3_8 i4_8).symm.trans hf
      refine lv_iload hx hb d_Fu_volumeBehind_8 (lv_at hl 4 rfl) ?_
      refine lv_iload_n hx hb d_Fu_volumeBehind_10 rfl (lv_at hl 2 rfl) ?_
      refine lv_icmp_gt (tgt := 39) hx hb d_Fu_volumeBehind_11 (by decide) (fun hc5 => ?_) (fun hc5 => ?_)
      · replace hf := iteP hc5 hf
        obtain rfl := Option.some.inj hf
        exact K1 _ _ hP hD hS _ (lv_sub hl [0, 1, 2, 3, 4] rfl)
      · replace hf := iteN hc5 hf
        refine lv_aload_n hx hb d_Fu_volumeBehind_14 rfl (lv_at hl 1 rfl) ?_
        refine lv_iload hx hb d_Fu_volumeBehind_15 (lv_at hl 4 rfl) ?_
        refine lv_iload_n hx hb d_Fu_volumeBehind_17 rfl (lv_at hl 3 rfl) ?_
        refine lv_aload_n hx hb d_Fu_volumeBehind_18 rfl (lv_at hl 1 rfl) ?_
        refine va_getN (D := G) (ci := 0) (v := .int o0_draft) (C := "YieldDesk$Basin") (T := F_Ba) (N := 10) hx hb hB fi_Ba hown hE.1 hP 2 rfl rfl 3 (by decide) (va_Nw.use rfl (hE.2.1.1 _ (List.mem_of_getElem? (i := 3) rfl))) (fun _ h9 => h9) rfl d_Fu_volumeBehind_19 ?_
        obtain ⟨z6, hz6, hf⟩ := obn hf
        refine x_V (As := [.int i4_8, .int i3_8, .int o0_draft]) (rest := []) (wc := [(o0, .inr (0, [.ref o0_inflows_a, .ref o0_losses_a, .int o0_periods, .int o0_draft, .int o0_cap, .int o0_time, .int o0_volume, .int o0_fails, .int o0_lacking, .int o0_spilt])), (o0_inflows_a, .inl (cy 0, 12, .inl o0_inflows)), (o0_losses_a, .inl (cy 0, 10, .inl o0_losses))]) (wr := [(z, .inr (2, [.ref z_multipleAtVolume_a, .int z_roundStart, .int z_roundLength, .int z_roundFails])), (z_multipleAtVolume_a, .inl (cy 0, 1000, .inl z_multipleAtVolume))]) (t_Ba_levelBehind l G cy kz N0  o0 o0_periods o0_draft o0_cap o0_time o0_volume o0_fails o0_lacking o0_spilt o0_inflows_a o0_inflows o0_losses_a o0_losses i4_8 i3_8 o0_draft z6 hz6 (fun w => w = [(o0, .inr (0, [.ref o0_inflows_a, .ref o0_losses_a, .int o0_periods, .int o0_draft, .int o0_cap, .int o0_time, .int o0_volume, .int o0_fails, .int o0_lacking, .int o0_spilt])), (o0_inflows_a, .inl (cy 0, 12, .inl o0_inflows)), (o0_losses_a, .inl (cy 0, 10, .inl o0_losses))]) rfl) hx hb hml hown hB hE hN hNA m_495 m_341 m_342 m_2 m_343 hdV_Ba_levelBehind ⟨Nat.le_of_ble_eq_true rfl, Nat.le_of_ble_eq_true rfl, Nat.le_of_ble_eq_true rfl, Nat.le_of_ble_eq_true rfl⟩ hP hD hS hA 2 0 rfl rfl rfl [2, 3, 4] [0, 1] rfl rfl (by decide) (by decide) hl.1 rfl (Nat.le_of_ble_eq_true rfl) d_Fu_volumeBehind_22 (fun _ H locs hw hP hD hS => ?_)
        subst hw
        replace hP : va_P G classes [(z, .inr (2, [.ref z_multipleAtVolume_a, .int z_roundStart, .int z_roundLength, .int z_roundFails])), (z_multipleAtVolume_a, .inl (cy 0, 1000, .inl z_multipleAtVolume)), (o0, .inr (0, [.ref o0_inflows_a, .ref o0_losses_a, .int o0_periods, .int o0_draft, .int o0_cap, .int o0_time, .int o0_volume, .int o0_fails, .int o0_lacking, .int o0_spilt])), (o0_inflows_a, .inl (cy 0, 12, .inl o0_inflows)), (o0_losses_a, .inl (cy 0, 10, .inl o0_losses))] H := hP.sub [0, 1, 2, 3, 4] rfl
        replace hD : va_D A [(z, .inr (2, [.ref z_multipleAtVolume_a, .int z_roundStart, .int z_roundLength, .int z_roundFails])), (z_multipleAtVolume_a, .inl (cy 0, 1000, .inl z_multipleAtVolume)), (o0, .inr (0, [.ref o0_inflows_a, .ref o0_losses_a, .int o0_periods, .int o0_draft, .int o0_cap, .int o0_time, .int o0_volume, .int o0_fails, .int o0_lacking, .int o0_spilt])), (o0_inflows_a, .inl (cy 0, 12, .inl o0_inflows)), (o0_losses_a, .inl (cy 0, 10, .inl o0_losses))] := hD.sub [0, 1, 2, 3, 4] (by decide) rfl
        refine lv_aload_n hx hb d_Fu_volumeBehind_25 rfl (lv_at hl 1 rfl) ?_
        refine va_getN (D := G) (ci := 0) (v := .int o0_cap) (C := "YieldDesk$Basin") (T := F_Ba) (N := 10) hx hb hB fi_Ba hown hE.1 hP 2 rfl rfl 4 (by decide) (va_Nw.use rfl (hE.2.1.1 _ (List.mem_of_getElem? (i := 6) rfl))) (fun _ h9 => h9) rfl d_Fu_volumeBehind_26 ?_
        obtain ⟨z7, hz7, hf⟩ := obn hf
        refine x_S0 (As := [.int z6, .int o0_cap]) (rest := []) (t_Ba_held l G cy kz N0  z6 o0_cap z7 hz7 (fun w => w = []) rfl) hx hb hml hown hB hE hN hNA m_518 m_357 m_2 m_358 hdS_Ba_held ⟨Nat.le_of_ble_eq_true rfl, Nat.le_of_ble_eq_true rfl, Nat.le_of_ble_eq_true rfl, Nat.le_of_ble_eq_true rfl⟩ hP hD hS hA hl.1 rfl (Nat.le_of_ble_eq_true rfl) d_Fu_volumeBehind_29 (fun H locs hP hD hS => ?_)
        refine lv_istore_n (lv' := [(3, .int z7), (0, .ref z), (1, .ref o0), (2, .int p1), (4, .int i4_8)]) hx hb d_Fu_volumeBehind_32 rfl hl (by decide) rfl (fun ls hl => ?_)
        refine lv_iinc (v := (i4_8 + (1 : Int32))) (lv' := [(4, .int (i4_8 + (1 : Int32))), (3, .int z7), (0, .ref z), (1, .ref o0), (2, .int p1)]) hx hb d_Fu_volumeBehind_33 hl (k := 4) rfl rfl (by decide) rfl (fun ls hl => ?_)
        refine lv_goto (tgt := 8) hx hb d_Fu_volumeBehind_36 (by decide) ?_
        exact ih z7 (i4_8 + (1 : Int32)) hf _ _ hP hD hS _ (lv_sub hl [2, 3, 4, 1, 0] rfl)
  exact L3 FU o0_cap (0 : Int32) hz4 _ _ hP hD hS _ (lv_sub hl [2, 3, 4, 1, 0] rfl)
