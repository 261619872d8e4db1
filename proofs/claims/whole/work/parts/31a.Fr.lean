set_option maxHeartbeats 4000000 in
set_option maxRecDepth 100000 in
theorem t_Fr_become (l : Launch) (G : va_G) (cy : Nat → ClassId) (kz : Nat → Nat) (N0 : Nat) (z : Nat) (z_upper : Int32) (z_lower : Int32) (p0 : Int32) (p1 : Int32) (out : Int32 × Int32) (h0 : f_Fr_become p0 p1 = some out) (Bp : va_W → Prop) (hBp : Bp [(z, .inr (1, [.int out.1, .int out.2]))]) : CT l G cy kz N0 y_Fr_become b_Fr_become 3 none 1 0 0 [.ref z, .int p0, .int p1] [(z, .inr (1, [.int z_upper, .int z_lower]))] none Bp := by
  refine CT.of (by decide) (Nat.le_of_ble_eq_true rfl) ?_
  intro p e s m below meth c A ls hx hb hr hml hB hown hlocks hnm hE hN hA hNA hP hD hS hl
  have hown : s.vm.findClass "YieldDesk$Fraction" = some m.cls := hown
  have hl : lv_has ls 3 [(0, .ref z), (1, .int p0), (2, .int p1)] := hl
  have hf := h0
  unfold f_Fr_become at hf
  refine lv_aload_n hx hb d_Fr_become_0 rfl (lv_at hl 0 rfl) ?_
  refine lv_iload_n hx hb d_Fr_become_1 rfl (lv_at hl 1 rfl) ?_
  refine va_put (D := G) (ci := 1) (v := .int p0) (ty := .int) (C := "YieldDesk$Fraction") (T := F_Fr) (N := 2) hx hb hB fi_Fr ft_Fr fo_Fr fn_Fr hown hE.1 hP hD hS 0 rfl rfl 0 (by decide) (hB _ m_132) (fun _ h9 => h9) rfl (by decide +kernel) rfl rfl (Nat.le_of_ble_eq_true rfl) d_Fr_become_2 (fun H locs hP hD hS => ?_)
  have hP : va_P G classes [(z, .inr (1, [.int p0, .int z_lower]))] H := hP
  have hD : va_D A [(z, .inr (1, [.int p0, .int z_lower]))] := hD
  refine lv_aload_n hx hb d_Fr_become_5 rfl (lv_at hl 0 rfl) ?_
  refine lv_iconst (v := (1 : Int32)) hx hb d_Fr_become_6 (by decide) ?_
  refine lv_iload_n hx hb d_Fr_become_7 rfl (lv_at hl 2 rfl) ?_
  refine va_mmax hx hb (hml.trans hl.1.symm) hown (hB _ m_447) (hB _ m_361) (hB _ m_10) (hB _ m_362) (Nat.le_of_ble_eq_true rfl) (Nat.le_of_ble_eq_true rfl) (Nat.le_of_ble_eq_true rfl) (Nat.le_of_ble_eq_true rfl) d_Fr_become_8 ?_
  refine va_put (D := G) (ci := 1) (v := .int (if (1 : Int32) < p1 then p1 else (1 : Int32))) (ty := .int) (C := "YieldDesk$Fraction") (T := F_Fr) (N := 2) hx hb hB fi_Fr ft_Fr fo_Fr fn_Fr hown hE.1 hP hD hS 0 rfl rfl 1 (by decide) (hB _ m_133) (fun _ h9 => h9) rfl (by decide +kernel) rfl rfl (Nat.le_of_ble_eq_true rfl) d_Fr_become_11 (fun H locs hP hD hS => ?_)
  have hP : va_P G classes [(z, .inr (1, [.int p0, .int (if (1 : Int32) < p1 then p1 else (1 : Int32))]))] H := hP
  have hD : va_D A [(z, .inr (1, [.int p0, .int (if (1 : Int32) < p1 then p1 else (1 : Int32))]))] := hD
  obtain rfl := Option.some.inj hf
  exact W.vret hx hb hr (x_ret hP hD hS hBp) hS.2.2 d_Fr_become_14
set_option maxHeartbeats 4000000 in
set_option maxRecDepth 100000 in
theorem t_Fr_lowerTo (l : Launch) (G : va_G) (cy : Nat → ClassId) (kz : Nat → Nat) (N0 : Nat) (z : Nat) (z_upper : Int32) (z_lower : Int32) (p0 : Int32) (p1 : Int32) (out : Int32 × Int32) (h0 : f_Fr_lowerTo z_upper z_lower p0 p1 = some out) (Bp : va_W → Prop) (hBp : Bp [(z, .inr (1, [.int out.1, .int out.2]))]) : CT l G cy kz N0 y_Fr_lowerTo b_Fr_lowerTo 3 none 2 0 0 [.ref z, .int p0, .int p1] [(z, .inr (1, [.int z_upper, .int z_lower]))] none Bp := by
  refine CT.of (by decide) (Nat.le_of_ble_eq_true rfl) ?_
  intro p e s m below meth c A ls hx hb hr hml hB hown hlocks hnm hE hN hA hNA hP hD hS hl
  have hown : s.vm.findClass "YieldDesk$Fraction" = some m.cls := hown
  have hl : lv_has ls 3 [(0, .ref z), (1, .int p0), (2, .int p1)] := hl
  have hf := h0
  unfold f_Fr_lowerTo at hf
  refine lv_iload_n hx hb d_Fr_lowerTo_0 rfl (lv_at hl 1 rfl) ?_
  refine lv_i2l (v := p0.toInt64) hx hb d_Fr_lowerTo_1 rfl ?_
  refine lv_aload_n hx hb d_Fr_lowerTo_2 rfl (lv_at hl 0 rfl) ?_
  refine va_get (D := G) (ci := 1) (v := .int z_lower) (C := "YieldDesk$Fraction") (T := F_Fr) (N := 2) hx hb hB fi_Fr hown hE.1 hP 0 rfl rfl 1 (by decide) (hB _ m_133) (fun _ h9 => h9) rfl d_Fr_lowerTo_3 ?_
  refine lv_i2l (v := z_lower.toInt64) hx hb d_Fr_lowerTo_6 rfl ?_
  refine lv_lmul hx hb d_Fr_lowerTo_7 ?_
  refine lv_aload_n hx hb d_Fr_lowerTo_8 rfl (lv_at hl 0 rfl) ?_
  refine va_get (D := G) (ci := 1) (v := .int z_upper) (C := "YieldDesk$Fraction") (T := F_Fr) (N := 2) hx hb hB fi_Fr hown hE.1 hP 0 rfl rfl 0 (by decide) (hB _ m_132) (fun _ h9 => h9) rfl d_Fr_lowerTo_9 ?_
  refine lv_i2l (v := z_upper.toInt64) hx hb d_Fr_lowerTo_12 rfl ?_
  refine lv_iload_n hx hb d_Fr_lowerTo_13 rfl (lv_at hl 2 rfl) ?_
  refine lv_i2l (v := p1.toInt64) hx hb d_Fr_lowerTo_14 rfl ?_
  refine lv_lmul hx hb d_Fr_lowerTo_15 ?_
  refine W.lcmp hx hb d_Fr_lowerTo_16 ?_
  refine lv_if_ge (tgt := 26) hx hb d_Fr_lowerTo_17 (by decide) (fun hc1 => ?_) (fun hc1 => ?_)
  · replace hf := iteP hc1 hf
    obtain rfl := Option.some.inj hf
    exact W.vret hx hb hr (x_ret hP hD hS hBp) hS.2.2 d_Fr_lowerTo_26
  · replace hf := iteN hc1 hf
    refine lv_aload_n hx hb d_Fr_lowerTo_20 rfl (lv_at hl 0 rfl) ?_
    refine lv_iload_n hx hb d_Fr_lowerTo_21 rfl (lv_at hl 1 rfl) ?_
    refine lv_iload_n hx hb d_Fr_lowerTo_22 rfl (lv_at hl 2 rfl) ?_
    obtain ⟨z2, hz2, hf⟩ := obn hf
    refine x_V (As := [.int p0, .int p1]) (rest := []) (wc := [(z, .inr (1, [.int z_upper, .int z_lower]))]) (wr := []) (t_Fr_become l G cy kz N0  z z_upper z_lower p0 p1 z2 hz2 (fun w => w = [(z, .inr (1, [.int z2.1, .int z2.2]))]) rfl) hx hb hml hown hB hE hN hNA m_452 m_444 m_445 m_6 m_446 hdV_Fr_become ⟨Nat.le_of_ble_eq_true rfl, Nat.le_of_ble_eq_true rfl, Nat.le_of_ble_eq_true rfl, Nat.le_of_ble_eq_true rfl⟩ hP hD hS hA 0 1 rfl rfl rfl [0] [] rfl rfl (by decide) (by decide) hl.1 rfl (Nat.le_of_ble_eq_true rfl) d_Fr_lowerTo_23 (fun _ H locs hw hP hD hS => ?_)
    subst hw
    replace hP : va_P G classes [(z, .inr (1, [.int z2.1, .int z2.2]))] H := hP.sub [0] rfl
    replace hD : va_D A [(z, .inr (1, [.int z2.1, .int z2.2]))] := hD.sub [0] (by decide) rfl
    obtain rfl := Option.some.inj hf
    exact W.vret hx hb hr (x_ret hP hD hS hBp) hS.2.2 d_Fr_lowerTo_26
set_option maxHeartbeats 4000000 in
set_option maxRecDepth 100000 in
theorem t_Fr_greatestDivisor (l : Launch) (G : va_G) (cy : Nat → ClassId) (kz : Nat → Nat) (N0 : Nat) (p0 : Int32) (p1 : Int32) (out : Int32) (h0 : f_Fr_greatestDivisor p0 p1 = some out) (Bp : va_W → Prop) (hBp : Bp []) : CT l G cy kz N0 y_Fr_greatestDivisor b_Fr_greatestDivisor 6 (some .int) 0 0 0 [.int p0, .int p1] [] (some (.int out)) Bp := by
  refine CT.of (by decide) (Nat.le_of_ble_eq_true rfl) ?_
  intro p e s m below meth c A ls hx hb hr hml hB hown hlocks hnm hE hN hA hNA hP hD hS hl
  have hown : s.vm.findClass "YieldDesk$Fraction" = some m.cls := hown
  have hl : lv_has ls 6 [(0, .int p0), (1, .int p1)] := hl
  have hf := h0
  unfold f_Fr_greatestDivisor at hf
  refine lv_iload_n hx hb d_Fr_greatestDivisor_0 rfl (lv_at hl 0 rfl) ?_
  refine lv_istore_n (lv' := [(2, .int p0), (0, .int p0), (1, .int p1)]) hx hb d_Fr_greatestDivisor_1 rfl hl (by decide) rfl (fun ls hl => ?_)
  refine lv_iload_n hx hb d_Fr_greatestDivisor_2 rfl (lv_at hl 2 rfl) ?_
  refine lv_istore_n (lv' := [(3, .int p1), (2, .int p0), (0, .int p0), (1, .int p1)]) hx hb d_Fr_greatestDivisor_3 rfl hl (by decide) rfl (fun ls hl => ?_)
  refine lv_iconst (v := (0 : Int32)) hx hb d_Fr_greatestDivisor_4 (by decide) ?_
  refine lv_istore (lv' := [(4, .int (0 : Int32)), (3, .int p1), (2, .int p0), (0, .int p0), (1, .int p1)]) hx hb d_Fr_greatestDivisor_5 hl (by decide) rfl (fun ls hl => ?_)
  obtain ⟨z4, hz4, hf⟩ := obn hf
  have K1 : ∀ (H : Heap) (locs : List Loc), va_P G classes [] H → va_D A [] → va_S A s.heap H locs → ∀ (ls : Array Slot), lv_has ls 6 [(0, .int p0), (1, .int p1), (2, .int z4.1), (3, .int z4.2.1), (4, .int z4.2.2)] → W p l e (RM 0 0 0) s m ([.int p0, .int p1] : List Value).toArray below meth c H locs 0 0 (MQ below (CQ G (some (.int out)) Bp A) ([.int p0, .int p1] : List Value).toArray s 0 0 A) (F0 m 34 ls []) := by
    intro H locs hP hD hS ls hl
    refine lv_iload_n hx hb d_Fr_greatestDivisor_34 rfl (lv_at hl 2 rfl) ?_
    obtain rfl := Option.some.inj hf
    exact W.iret hx hb hr (x_ret hP hD hS hBp) hS.2.2 d_Fr_greatestDivisor_35
  clear hf
  have L3 : ∀ (n : Nat) (i2_7 : Int32) (i3_7 : Int32) (i4_7 : Int32), f_Fr_greatestDivisor_L7 n i2_7 i3_7 i4_7 = some z4 → ∀ (H : Heap) (locs : List Loc), va_P G classes [] H → va_D A [] → va_S A s.heap H locs → ∀ (ls : Array Slot), lv_has ls 6 [(0, .int p0), (1, .int p1), (2, .int i2_7), (3, .int i3_7), (4, .int i4_7)] → W p l e (RM 0 0 0) s m ([.int p0, .int p1] : List Value).toArray below meth c H locs 0 0 (MQ below (CQ G (some (.int out)) Bp A) ([.int p0, .int p1] : List Value).toArray s 0 0 A) (F0 m 7 ls []) := by
    intro n
    induction n with
    | zero => intro i2_7 i3_7 i4_7 hf; exact absurd ((f_Fr_greatestDivisor_L7_z  i2_7 i3_7 i4_7).symm.trans hf) (by intro h; cases h)
    | succ n ih =>
      intro i2_7 i3_7 i4_7 hf H locs hP hD hS ls hl
      replace hf := (f_Fr_greatestDivisor_L7_s  n i2_7 i3_7 i4_7).symm.trans hf
      refine lv_iload hx hb d_Fr_greatestDivisor_7 (lv_at hl 4 rfl) ?_
      refine lv_bipush (v := (100 : Int32)) hx hb d_Fr_greatestDivisor_9 (by decide) ?_
      refine lv_icmp_ge (tgt := 34) hx hb d_Fr_greatestDivisor_11 (by decide) (fun hc5 => ?_) (fun hc5 => ?_)
      · replace hf := iteP hc5 hf
        obtain rfl := Option.some.inj hf
        exact K1 _ _ hP hD hS _ (lv_sub hl [0, 1, 2, 3, 4] rfl)
      · replace hf := iteN hc5 hf
        refine lv_iload_n hx hb d_Fr_greatestDivisor_14 rfl (lv_at hl 3 rfl) ?_
        refine lv_if_le (tgt := 34) hx hb d_Fr_greatestDivisor_15 (by decide) (fun hc6 => ?_) (fun hc6 => ?_)
        · replace hf := iteP hc6 hf
          obtain rfl := Option.some.inj hf
          exact K1 _ _ hP hD hS _ (lv_sub hl [0, 1, 2, 3, 4] rfl)
        · replace hf := iteN hc6 hf
          refine lv_iload_n hx hb d_Fr_greatestDivisor_18 rfl (lv_at hl 2 rfl) ?_
          refine lv_iload_n hx hb d_Fr_greatestDivisor_19 rfl (lv_at hl 3 rfl) ?_
          obtain ⟨hg7, hf⟩ := gdn hf
          refine lv_irem hx hb d_Fr_greatestDivisor_20 hg7 ?_
          refine lv_istore (lv' := [(5, .int (i2_7 - i2_7 / i3_7 * i3_7)), (0, .int p0), (1, .int p1), (2, .int i2_7), (3, .int i3_7), (4, .int i4_7)]) hx hb d_Fr_greatestDivisor_21 hl (by decide) rfl (fun ls hl => ?_)
          refine lv_iload_n hx hb d_Fr_greatestDivisor_23 rfl (lv_at hl 4 rfl) ?_
          refine lv_istore_n (lv' := [(2, .int i3_7), (5, .int (i2_7 - i2_7 / i3_7 * i3_7)), (0, .int p0), (1, .int p1), (3, .int i3_7), (4, .int i4_7)]) hx hb d_Fr_greatestDivisor_24 rfl hl (by decide) rfl (fun ls hl => ?_)
          refine lv_iload hx hb d_Fr_greatestDivisor_25 (lv_at hl 1 rfl) ?_
          refine lv_istore_n (lv' := [(3, .int (i2_7 - i2_7 / i3_7 * i3_7)), (2, .int i3_7), (5, .int (i2_7 - i2_7 / i3_7 * i3_7)), (0, .int p0), (1, .int p1), (4, .int i4_7)]) hx hb d_Fr_greatestDivisor_27 rfl hl (by decide) rfl (fun ls hl => ?_)
          refine lv_iinc (v := (i4_7 + (1 : Int32))) (lv' := [(4, .int (i4_7 + (1 : Int32))), (3, .int (i2_7 - i2_7 / i3_7 * i3_7)), (2, .int i3_7), (5, .int (i2_7 - i2_7 / i3_7 * i3_7)), (0, .int p0), (1, .int p1)]) hx hb d_Fr_greatestDivisor_28 hl (k := 5) rfl rfl (by decide) rfl (fun ls hl => ?_)
          refine lv_goto (tgt := 7) hx hb d_Fr_greatestDivisor_31 (by decide) ?_
          exact ih i3_7 (i2_7 - i2_7 / i3_7 * i3_7) (i4_7 + (1 : Int32)) hf _ _ hP hD hS _ (lv_sub hl [4, 5, 2, 1, 0] rfl)
  exact L3 FU p0 p1 (0 : Int32) hz4 _ _ hP hD hS _ (lv_sub hl [3, 4, 2, 1, 0] rfl)
set_option maxHeartbeats 4000000 in
set_option maxRecDepth 100000 in
theorem t_Fr_part (l : Launch) (G : va_G) (cy : Nat → ClassId) (kz : Nat → Nat) (N0 : Nat) (z : Nat) (z_upper : Int32) (z_lower : Int32) (p0 : Int32) (out : Int32) (h0 : f_Fr_part z_upper z_lower p0 = some out) (Bp : va_W → Prop) (hBp : Bp [(z, .inr (1, [.int z_upper, .int z_lower]))]) : CT l G cy kz N0 y_Fr_part b_Fr_part 3 (some .int) 1 0 0 [.ref z, .int p0] [(z, .inr (1, [.int z_upper, .int z_lower]))] (some (.int out)) Bp := by
  refine CT.of (by decide) (Nat.le_of_ble_eq_true rfl) ?_
  intro p e s m below meth c A ls hx hb hr hml hB hown hlocks hnm hE hN hA hNA hP hD hS hl
  have hown : s.vm.findClass "YieldDesk$Fraction" = some m.cls := hown
  have hl : lv_has ls 3 [(0, .ref z), (1, .int p0)] := hl
  have hf := h0
  unfold f_Fr_part at hf
  refine lv_iconst (v := (1 : Int32)) hx hb d_Fr_part_0 (by decide) ?_
  refine lv_aload_n hx hb d_Fr_part_1 rfl (lv_at hl 0 rfl) ?_
  refine va_get (D := G) (ci := 1) (v := .int z_upper) (C := "YieldDesk$Fraction") (T := F_Fr) (N := 2) hx hb hB fi_Fr hown hE.1 hP 0 rfl rfl 0 (by decide) (hB _ m_132) (fun _ h9 => h9) rfl d_Fr_part_2 ?_
  refine lv_aload_n hx hb d_Fr_part_5 rfl (lv_at hl 0 rfl) ?_
  refine va_get (D := G) (ci := 1) (v := .int z_lower) (C := "YieldDesk$Fraction") (T := F_Fr) (N := 2) hx hb hB fi_Fr hown hE.1 hP 0 rfl rfl 1 (by decide) (hB _ m_133) (fun _ h9 => h9) rfl d_Fr_part_6 ?_
  obtain ⟨z1, hz1, hf⟩ := obn hf
  refine x_S0 (As := [.int z_upper, .int z_lower]) (rest := [.int (1 : Int32)]) (t_Fr_greatestDivisor l G cy kz N0  z_upper z_lower z1 hz1 (fun w => w = []) rfl) hx hb hml hown hB hE hN hNA m_457 m_458 m_6 m_459 hdS_Fr_greatestDivisor ⟨Nat.le_of_ble_eq_true rfl, Nat.le_of_ble_eq_true rfl, Nat.le_of_ble_eq_true rfl, Nat.le_of_ble_eq_true rfl⟩ hP hD hS hA hl.1 rfl (Nat.le_of_ble_eq_true rfl) d_Fr_part_9 (fun H locs hP hD hS => ?_)
  refine va_mmax hx hb (hml.trans hl.1.symm) hown (hB _ m_447) (hB _ m_361) (hB _ m_10) (hB _ m_362) (Nat.le_of_ble_eq_true rfl) (Nat.le_of_ble_eq_true rfl) (Nat.le_of_ble_eq_true rfl) (Nat.le_of_ble_eq_true rfl) d_Fr_part_12 ?_
  refine lv_istore_n (lv' := [(2, .int (if (1 : Int32) < z1 then z1 else (1 : Int32))), (0, .ref z), (1, .int p0)]) hx hb d_Fr_part_15 rfl hl (by decide) rfl (fun ls hl => ?_)
  refine lv_iload_n hx hb d_Fr_part_16 rfl (lv_at hl 2 rfl) ?_
  refine lv_if_ne (tgt := 27) hx hb d_Fr_part_17 (by decide) (fun hc2 => ?_) (fun hc2 => ?_)
  · replace hf := iteN hc2 hf
    refine lv_aload_n hx hb d_Fr_part_27 rfl (lv_at hl 1 rfl) ?_
    refine va_get (D := G) (ci := 1) (v := .int z_lower) (C := "YieldDesk$Fraction") (T := F_Fr) (N := 2) hx hb hB fi_Fr hown hE.1 hP 0 rfl rfl 1 (by decide) (hB _ m_133) (fun _ h9 => h9) rfl d_Fr_part_28 ?_
    refine lv_iload_n hx hb d_Fr_part_31 rfl (lv_at hl 0 rfl) ?_
    obtain ⟨hg3, hf⟩ := gdn hf
    refine lv_idiv hx hb d_Fr_part_32 hg3 ?_
    obtain rfl := Option.some.inj hf
    exact W.iret hx hb hr (x_ret hP hD hS hBp) hS.2.2 d_Fr_part_33
  · replace hf := iteP hc2 hf
    refine lv_aload_n hx hb d_Fr_part_20 rfl (lv_at hl 1 rfl) ?_
    refine va_get (D := G) (ci := 1) (v := .int z_upper) (C := "YieldDesk$Fraction") (T := F_Fr) (N := 2) hx hb hB fi_Fr hown hE.1 hP 0 rfl rfl 0 (by decide) (hB _ m_132) (fun _ h9 => h9) rfl d_Fr_part_21 ?_
    refine lv_goto (tgt := 31) hx hb d_Fr_part_24 (by decide) ?_
    refine lv_iload_n hx hb d_Fr_part_31 rfl (lv_at hl 0 rfl) ?_
    obtain ⟨hg4, hf⟩ := gdn hf
    refine lv_idiv hx hb d_Fr_part_32 hg4 ?_
    obtain rfl := Option.some.inj hf
    exact W.iret hx hb hr (x_ret hP hD hS hBp) hS.2.2 d_Fr_part_33
set_option maxHeartbeats 4000000 in
set_option maxRecDepth 100000 in
theorem t_Fr_raiseTo (l : Launch) (G : va_G) (cy : Nat → ClassId) (kz : Nat → Nat) (N0 : Nat) (z : Nat) (z_upper : Int32) (z_lower : Int32) (p0 : Int32) (p1 : Int32) (out : Int32 × Int32) (h0 : f_Fr_raiseTo z_upper z_lower p0 p1 = some out) (Bp : va_W → Prop) (hBp : Bp [(z, .inr (1, [.int out.1, .int out.2]))]) : CT l G cy kz N0 y_Fr_raiseTo b_Fr_raiseTo 3 none 2 0 0 [.ref z, .int p0, .int p1] [(z, .inr (1, [.int z_upper, .int z_lower]))] none Bp := by
  refine CT.of (by decide) (Nat.le_of_ble_eq_true rfl) ?_
  intro p e s m below meth c A ls hx hb hr hml hB hown hlocks hnm hE hN hA hNA hP hD hS hl
  have hown : s.vm.findClass "YieldDesk$Fraction" = some m.cls := hown
  have hl : lv_has ls 3 [(0, .ref z), (1, .int p0), (2, .int p1)] := hl
  have hf := h0
  unfold f_Fr_raiseTo at hf
  refine lv_iload_n hx hb d_Fr_raiseTo_0 rfl (lv_at hl 1 rfl) ?_
  refine lv_i2l (v := p0.toInt64) hx hb d_Fr_raiseTo_1 rfl ?_
  refine lv_aload_n hx hb d_Fr_raiseTo_2 rfl (lv_at hl 0 rfl) ?_
  refine va_get (D := G) (ci := 1) (v := .int z_lower) (C := "YieldDesk$Fraction") (T := F_Fr) (N := 2) hx hb hB fi_Fr hown hE.1 hP 0 rfl rfl 1 (by decide) (hB _ m_133) (fun _ h9 => h9) rfl d_Fr_raiseTo_3 ?_
  refine lv_i2l (v := z_lower.toInt64) hx hb d_Fr_raiseTo_6 rfl ?_
  refine lv_lmul hx hb d_Fr_raiseTo_7 ?_
  refine lv_aload_n hx hb d_Fr_raiseTo_8 rfl (lv_at hl 0 rfl) ?_
  refine va_get (D := G) (ci := 1) (v := .int z_upper) (C := "YieldDesk$Fraction") (T := F_Fr) (N := 2) hx hb hB fi_Fr hown hE.1 hP 0 rfl rfl 0 (by decide) (hB _ m_132) (fun _ h9 => h9) rfl d_Fr_raiseTo_9 ?_
  refine lv_i2l (v := z_upper.toInt64) hx hb d_Fr_raiseTo_12 rfl ?_
  refine lv_iload_n hx hb d_Fr_raiseTo_13 rfl (lv_at hl 2 rfl) ?_
  refine lv_i2l (v := p1.toInt64) hx hb d_Fr_raiseTo_14 rfl ?_
  refine lv_lmul hx hb d_Fr_raiseTo_15 ?_
  refine W.lcmp hx hb d_Fr_raiseTo_16 ?_
  refine lv_if_le (tgt := 26) hx hb d_Fr_raiseTo_17 (by decide) (fun hc1 => ?_) (fun hc1 => ?_)
  · replace hf := iteP hc1 hf
    obtain rfl := Option.some.inj hf
    exact W.vret hx hb hr (x_ret hP hD hS hBp) hS.2.2 d_Fr_raiseTo_26
  · replace hf := iteN hc1 hf
    refine lv_aload_n hx hb d_Fr_raiseTo_20 rfl (lv_at hl 0 rfl) ?_
    refine lv_iload_n hx hb d_Fr_raiseTo_21 rfl (lv_at hl 1 rfl) ?_
    refine lv_iload_n hx hb d_Fr_raiseTo_22 rfl (lv_at hl 2 rfl) ?_
    obtain ⟨z2, hz2, hf⟩ := obn hf
    refine x_V (As := [.int p0, .int p1]) (rest := []) (wc := [(z, .inr (1, [.int z_upper, .int z_lower]))]) (wr := []) (t_Fr_become l G cy kz N0  z z_upper z_lower p0 p1 z2 hz2 (fun w => w = [(z, .inr (1, [.int z2.1, .int z2.2]))]) rfl) hx hb hml hown hB hE hN hNA m_452 m_444 m_445 m_6 m_446 hdV_Fr_become ⟨Nat.le_of_ble_eq_true rfl, Nat.le_of_ble_eq_true rfl, Nat.le_of_ble_eq_true rfl, Nat.le_of_ble_eq_true rfl⟩ hP hD hS hA 0 1 rfl rfl rfl [0] [] rfl rfl (by decide) (by decide) hl.1 rfl (Nat.le_of_ble_eq_true rfl) d_Fr_raiseTo_23 (fun _ H locs hw hP hD hS => ?_)
    subst hw
    replace hP : va_P G classes [(z, .inr (1, [.int z2.1, .int z2.2]))] H := hP.sub [0] rfl
    replace hD : va_D A [(z, .inr (1, [.int z2.1, .int z2.2]))] := hD.sub [0] (by decide) rfl
    obtain rfl := Option.some.inj hf
    exact W.vret hx hb hr (x_ret hP hD hS hBp) hS.2.2 d_Fr_raiseTo_26
set_option maxHeartbeats 4000000 in
set_option maxRecDepth 100000 in
theorem t_Fr_isBelow (l : Launch) (G : va_G) (cy : Nat → ClassId) (kz : Nat → Nat) (N0 : Nat) (z : Nat) (z_upper : Int32) (z_lower : Int32) (o0 : Nat) (o0_upper : Int32) (o0_lower : Int32) (out : Int32) (h0 : f_Fr_isBelow z_upper z_lower o0_upper o0_lower = some out) (Bp : va_W → Prop) (hBp : Bp [(z, .inr (1, [.int z_upper, .int z_lower])), (o0, .inr (1, [.int o0_upper, .int o0_lower]))]) : CT l G cy kz N0 y_Fr_isBelow b_Fr_isBelow 2 (some .boolean) 0 0 0 [.ref z, .ref o0] [(z, .inr (1, [.int z_upper, .int z_lower])), (o0, .inr (1, [.int o0_upper, .int o0_lower]))] (some (.int out)) Bp := by
  refine CT.of (by decide) (Nat.le_of_ble_eq_true rfl) ?_
  intro p e s m below meth c A ls hx hb hr hml hB hown hlocks hnm hE hN hA hNA hP hD hS hl
  have hown : s.vm.findClass "YieldDesk$Fraction" = some m.cls := hown
  have hl : lv_has ls 2 [(0, .ref z), (1, .ref o0)] := hl
  have hf := h0
  unfold f_Fr_isBelow at hf
  refine lv_aload_n hx hb d_Fr_isBelow_0 rfl (lv_at hl 0 rfl) ?_
  refine va_get (D := G) (ci := 1) (v := .int z_upper) (C := "YieldDesk$Fraction") (T := F_Fr) (N := 2) hx hb hB fi_Fr hown hE.1 hP 0 rfl rfl 0 (by decide) (hB _ m_132) (fun _ h9 => h9) rfl d_Fr_isBelow_1 ?_
  refine lv_i2l (v := z_upper.toInt64) hx hb d_Fr_isBelow_4 rfl ?_
  refine lv_aload_n hx hb d_Fr_isBelow_5 rfl (lv_at hl 1 rfl) ?_
  refine va_get (D := G) (ci := 1) (v := .int o0_lower) (C := "YieldDesk$Fraction") (T := F_Fr) (N := 2) hx hb hB fi_Fr hown hE.1 hP 1 rfl rfl 1 (by decide) (hB _ m_133) (fun _ h9 => h9) rfl d_Fr_isBelow_6 ?_
  refine lv_i2l (v := o0_lower.toInt64) hx hb d_Fr_isBelow_9 rfl ?_
  refine lv_lmul hx hb d_Fr_isBelow_10 ?_
  refine lv_aload_n hx hb d_Fr_isBelow_11 rfl (lv_at hl 1 rfl) ?_
  refine va_get (D := G) (ci := 1) (v := .int o0_upper) (C := "YieldDesk$Fraction") (T := F_Fr) (N := 2) hx hb hB fi_Fr hown hE.1 hP 1 rfl rfl 0 (by decide) (hB _ m_132) (fun _ h9 => h9) rfl d_Fr_isBelow_12 ?_
  refine lv_i2l (v := o0_upper.toInt64) hx hb d_Fr_isBelow_15 rfl ?_
  refine lv_aload_n hx hb d_Fr_isBelow_16 rfl (lv_at hl 0 rfl) ?_
  refine va_get (D := G) (ci := 1) (v := .int z_lower) (C := "YieldDesk$Fraction") (T := F_Fr) (N := 2) hx hb hB fi_Fr hown hE.1 hP 0 rfl rfl 1 (by decide) (hB _ m_133) (fun _ h9 => h9) rfl d_Fr_isBelow_17 ?_
  refine lv_i2l (v := z_lower.toInt64) hx hb d_Fr_isBelow_20 rfl ?_
  refine lv_lmul hx hb d_Fr_isBelow_21 ?_
  refine W.lcmp hx hb d_Fr_isBelow_22 ?_
  refine lv_if_ge (tgt := 30) hx hb d_Fr_isBelow_23 (by decide) (fun hc1 => ?_) (fun hc1 => ?_)
  · replace hf := iteP hc1 hf
    refine lv_iconst (v := (0 : Int32)) hx hb d_Fr_isBelow_30 (by decide) ?_
    obtain rfl := Option.some.inj hf
    exact W.zret (v := (0 : Int32)) hx hb hr (show narrow .boolean (.int (0 : Int32)) = .int (0 : Int32) from rfl) (x_ret hP hD hS hBp) hS.2.2 d_Fr_isBelow_31
  · replace hf := iteN hc1 hf
    refine lv_iconst (v := (1 : Int32)) hx hb d_Fr_isBelow_26 (by decide) ?_
    refine lv_goto (tgt := 31) hx hb d_Fr_isBelow_27 (by decide) ?_
    obtain rfl := Option.some.inj hf
    exact W.zret (v := (1 : Int32)) hx hb hr (show narrow .boolean (.int (1 : Int32)) = .int (1 : Int32) from rfl) (x_ret hP hD hS hBp) hS.2.2 d_Fr_isBelow_31
