/-! ===== numbers ===== -/
theorem upd_eq (f : Nat → Int32) (k : Nat) (x : Int32) (j : Nat) : upd f k x j = if j = k then x else f j := rfl
theorem vu_self {α : Type} (f : Nat → α) (k : Nat) : va_up f k (f k) = f := by
  funext j
  by_cases h : j = k
  · subst h; simp [va_up]
  · simp [va_up, h]
theorem isOut (p a b : Int32) : f_Ye_isOutside p a b = some (if a ≤ p ∧ p ≤ b then 0 else 1) := by
  unfold f_Ye_isOutside
  by_cases h1 : p < a
  · rw [if_pos h1, if_neg (fun h => Int32.not_le.mpr h1 h.1)]
  · rw [if_neg h1]
    by_cases h2 : p ≤ b
    · rw [if_pos h2, if_pos ⟨Int32.not_lt.mp h1, h2⟩]
    · rw [if_neg h2, if_neg (fun h => h2 h.2)]
theorem mIn (p a b : Int32) : f_Mo_in p a b = some (if a ≤ p ∧ p ≤ b then 1 else 0) := by
  unfold f_Mo_in
  by_cases h1 : p < a
  · rw [if_pos h1, if_neg (fun h => Int32.not_le.mpr h1 h.1)]
  · rw [if_neg h1]
    by_cases h2 : b < p
    · rw [if_pos h2, if_neg (fun h => Int32.not_le.mpr h2 h.2)]
    · rw [if_neg h2, if_pos ⟨Int32.not_lt.mp h1, Int32.not_lt.mp h2⟩]
theorem nlit (n : Nat) : (OfNat.ofNat n : Int32) = nI n := rfl
/-- a number between 0 and a literal -/
theorem nI_rng {x : Int32} (M : Nat) (hM : M < 2 ^ 31) (h : 0 ≤ x ∧ x ≤ nI M) : ∃ j : Nat, j ≤ M ∧ x = nI j := by
  refine nI_of2 (M := nI M) (n := M) (nI_toInt hM) (fun h1 => Int32.not_le.mpr h1 h.1) h.2
theorem nI_rng' {n M : Nat} (hM : M < 2 ^ 31) (h : n ≤ M) : (0 : Int32) ≤ nI n ∧ nI n ≤ nI M := ⟨nI_pos' (by omega), nI_le h hM⟩
/-- an index within a row -/
theorem ixn {n N : Nat} (h : n < N) (hN : N < 2 ^ 31) : ¬ (nI n < 0 ∨ N ≤ (nI n).toNatClampNeg) := nI_in h hN
def iI (z : Int) : Int32 := Int32.ofInt z
theorem iI_nat (n : Nat) : iI (n : Int) = nI n := Int32.ofInt_eq_ofNat
theorem iI_add (a b : Int) : iI a + iI b = iI (a + b) := (Int32.ofInt_add a b).symm
theorem iI_sub (a b : Int) : iI a - iI b = iI (a - b) := (Int32.ofInt_sub a b).symm
theorem iI_mul (a b : Int) : iI a * iI b = iI (a * b) := (Int32.ofInt_mul a b).symm
theorem iI_toInt {a : Int} (h1 : -2147483648 ≤ a) (h2 : a < 2147483648) : (iI a).toInt = a := Int32.toInt_ofInt_of_le h1 h2
theorem iI_lt {a b : Int} (h1 : -2147483648 ≤ a) (h2 : a < 2147483648) (h3 : -2147483648 ≤ b) (h4 : b < 2147483648) : iI a < iI b ↔ a < b := by
  rw [Int32.lt_iff_toInt_lt, iI_toInt h1 h2, iI_toInt h3 h4]
theorem iI_le {a b : Int} (h1 : -2147483648 ≤ a) (h2 : a < 2147483648) (h3 : -2147483648 ≤ b) (h4 : b < 2147483648) : iI a ≤ iI b ↔ a ≤ b := by
  rw [Int32.le_iff_toInt_le, iI_toInt h1 h2, iI_toInt h3 h4]
theorem iI_eq {a b : Int} (h1 : -2147483648 ≤ a) (h2 : a < 2147483648) (h3 : -2147483648 ≤ b) (h4 : b < 2147483648) : iI a = iI b ↔ a = b := by
  rw [← Int32.toInt_inj, iI_toInt h1 h2, iI_toInt h3 h4]
theorem iI_0 : (0 : Int32) = iI 0 := rfl
theorem add_sub_i (a b : Int32) : (a + b) - a = b := by rw [Int32.add_comm, Int32.add_sub_cancel]
theorem sub_neg_i (a b : Int32) : a - b = a + -b := Int32.sub_eq_add_neg a b
/-! ===== rows that turn numbers of the machine into plain ones; side goals by omega ===== -/
theorem z_lt {a b : Nat} (ha : a < 2147483648) (hb : b < 2147483648) : (nI a < nI b) = (a < b) := propext (nI_ltI ha hb)
theorem z_le {a b : Nat} (ha : a < 2147483648) (hb : b < 2147483648) : (nI a ≤ nI b) = (a ≤ b) := propext (nI_leI ha hb)
theorem z_eq {a b : Nat} (ha : a < 2147483648) (hb : b < 2147483648) : (nI a = nI b) = (a = b) := propext (nI_eq ha hb)
theorem z_ltl {a b : Nat} (ha : a < 2147483648) (hb : b < 2147483648) : (nI a < (OfNat.ofNat b : Int32)) = (a < b) := propext (nI_ltI ha hb)
theorem z_lel {a b : Nat} (ha : a < 2147483648) (hb : b < 2147483648) : (nI a ≤ (OfNat.ofNat b : Int32)) = (a ≤ b) := propext (nI_leI ha hb)
theorem z_eql {a b : Nat} (ha : a < 2147483648) (hb : b < 2147483648) : (nI a = (OfNat.ofNat b : Int32)) = (a = b) := propext (nI_eq ha hb)
theorem z_llt {a b : Nat} (ha : a < 2147483648) (hb : b < 2147483648) : ((OfNat.ofNat b : Int32) < nI a) = (b < a) := propext (nI_ltI hb ha)
theorem z_lle {a b : Nat} (ha : a < 2147483648) (hb : b < 2147483648) : ((OfNat.ofNat b : Int32) ≤ nI a) = (b ≤ a) := propext (nI_leI hb ha)
theorem z_ll_eq {a b : Nat} (ha : a < 2147483648) (hb : b < 2147483648) : ((OfNat.ofNat a : Int32) = (OfNat.ofNat b : Int32)) = (a = b) := propext (nI_eq ha hb)
theorem z_ll_lt {a b : Nat} (ha : a < 2147483648) (hb : b < 2147483648) : ((OfNat.ofNat a : Int32) < (OfNat.ofNat b : Int32)) = (a < b) := propext (nI_ltI ha hb)
theorem z_ll_le {a b : Nat} (ha : a < 2147483648) (hb : b < 2147483648) : ((OfNat.ofNat a : Int32) ≤ (OfNat.ofNat b : Int32)) = (a ≤ b) := propext (nI_leI ha hb)
theorem z_cl {n : Nat} (h : n < 2147483648) : (nI n).toNatClampNeg = n := nI_clamp h
theorem z_cll {n : Nat} (h : n < 2147483648) : (OfNat.ofNat n : Int32).toNatClampNeg = n := nI_clamp h
theorem z_addl (a b : Nat) : nI a + (OfNat.ofNat b : Int32) = nI (a + b) := nI_add a b
theorem z_ladd (a b : Nat) : (OfNat.ofNat b : Int32) + nI a = nI (b + a) := nI_add b a
theorem z_add (a b : Nat) : nI a + nI b = nI (a + b) := nI_add a b
theorem z_subl {a b : Nat} (h : b ≤ a) : nI a - (OfNat.ofNat b : Int32) = nI (a - b) := pk_sub h
theorem z_sub {a b : Nat} (h : b ≤ a) : nI a - nI b = nI (a - b) := pk_sub h
theorem z_divl {a d : Nat} (ha : a < 2147483648) (h0 : 0 < d) (hd : d < 2147483648) : nI a / (OfNat.ofNat d : Int32) = nI (a / d) := pk_div ha h0 hd
theorem z_rem {a d : Nat} (ha : a < 2147483648) (h0 : 0 < d) (hd : d < 2147483648) : nI a - nI a / nI d * nI d = nI (a % d) := pk_rem ha h0 hd
theorem z_reml {a d : Nat} (ha : a < 2147483648) (h0 : 0 < d) (hd : d < 2147483648) : nI a - nI a / (OfNat.ofNat d : Int32) * (OfNat.ofNat d : Int32) = nI (a % d) := pk_rem ha h0 hd
theorem z_mul (a b : Nat) : nI a * nI b = nI (a * b) := pk_mul a b
theorem z_lmul (a b : Nat) : (OfNat.ofNat a : Int32) * nI b = nI (a * b) := pk_mul a b
theorem z_mull (a b : Nat) : nI a * (OfNat.ofNat b : Int32) = nI (a * b) := pk_mul a b
theorem z_obs {α β : Type} (a : α) (f : α → Option β) : (some a).bind f = f a := rfl
theorem z_ll_ne0 : ((1 : Int32) = 0) = False := propext ⟨fun h => absurd h (by decide), fun h => h.elim⟩
theorem zlit (n : Nat) : (no_index (OfNat.ofNat n) : Int32) = nI n := rfl
theorem z_div {a d : Nat} (ha : a < 2147483648) (h0 : 0 < d) (hd : d < 2147483648) : nI a / nI d = nI (a / d) := pk_div ha h0 hd
theorem z_rem2 (a d : Nat) : nI a - nI (a / d * d) = nI (a % d) := by
  have h := Nat.div_add_mod' a d
  rw [pk_sub (by omega)]
  congr 1
  omega
