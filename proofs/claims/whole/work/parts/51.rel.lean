-- X: (X 0) n_periods, (X 1) n_draft, (X 2) n_cap, (X 3) n_time, (X 4) n_volume, (X 5) n_fails, (X 6) n_lacking, (X 7) n_spilt, (X 8) t_periods, (X 9) t_draft, (X 10) t_cap, (X 11) t_time, (X 12) t_volume, (X 13) t_fails, (X 14) t_lacking, (X 15) t_spilt, (X 16) x_length, (X 17) x_kind, (X 18) x_numbers, (X 19) x_items, (X 20) x_kindsTold, (X 21) h_next, (X 22) h_known, (X 23) g_periods, (X 24) g_from_upper, (X 25) g_from_lower, (X 26) g_upTo_upper, (X 27) g_upTo_lower, (X 28) u_roundStart, (X 29) u_roundLength, (X 30) u_roundFails, (X 31) v_seen, (X 32) v_fitting, (X 33) k_upper, (X 34) k_lower
-- Y: (Y 0) n_inflows, (Y 1) n_losses, (Y 2) t_inflows, (Y 3) t_losses, (Y 4) x_letters, (Y 5) g_sums, (Y 6) u_multipleAtVolume, (Y 7) v_periodsSeen, (Y 8) v_volumesSeen, (Y 9) v_draftsFitting, (Y 10) v_volumes, (Y 11) v_draftsAtVolume
-- U: (U 0) z_deeds, (U 1) z_seen, (U 2) z_letters, (U 3) z_at, (U 4) z_tokenAt, (U 5) z_tokenSort, (U 6) z_tokenValue, (U 7) z_items, (U 8) z_toldItems
-- V: (V 0) z_now, (V 1) z_read, (V 2) z_past, (V 3) z_images, (V 4) z_isKept, (V 5) z_seenAt, (V 6) z_seenVolume, (V 7) z_text, (V 8) z_firstAt, (V 9) z_failedBy, (V 10) z_volumes, (V 11) z_fit
-- Z: (Z 0) z_fromAbove, (Z 1) z_fromBelow, (Z 2) z_toAbove, (Z 3) z_toBelow
/-- a basin's fields and the reference's row of thirty -/
def RowB (per dr cap tim vol fai lac spi : Int32) (inf los : Nat → Int32) (r : Nat → Int32) : Prop :=
  r 0 = per ∧ r 13 = dr ∧ r 14 = cap ∧ r 25 = tim ∧ r 26 = vol ∧ r 27 = fai ∧ r 28 = lac ∧ r 29 = spi ∧ (∀ i, i < 12 → r (1 + i) = inf i) ∧ (∀ i, i < 10 → r (15 + i) = los i)
/-- a row within the document's bounds -/
def RowV (r : Nat → Int32) : Prop :=
  (∃ N, 1 ≤ N ∧ N ≤ 12 ∧ r 0 = nI N) ∧ (∃ D, D ≤ 99 ∧ r 13 = nI D) ∧ (∃ K v, v ≤ K ∧ K ≤ 999 ∧ r 14 = nI K ∧ r 26 = nI v) ∧ (∃ T, T ≤ 999 ∧ r 25 = nI T) ∧ (∀ i, i < 12 → ∃ f, f ≤ 99 ∧ r (1 + i) = nI f) ∧ (∀ i, i < 10 → ∃ f, f ≤ 9 ∧ r (15 + i) = nI f)
def rowAt (p : Nat → Int32) (k : Nat) : Nat → Int32 := fun j => p (k + j)
def RNow (X : Nat → Int32) (Y : Nat → Nat → Int32) (V : Nat → Nat → Int32) : Prop := RowB (X 0) (X 1) (X 2) (X 3) (X 4) (X 5) (X 6) (X 7) (Y 0) (Y 1) (V 0) ∧ RowV (V 0)
def RTxt (xl ul : Int32) (ya va : Nat → Int32) : Prop := ∃ n, n ≤ 120 ∧ xl = nI n ∧ ul = nI n ∧ ∀ i, i < n → ya i = va i
def RHis (nx kn un : Int32) (ri rl rf : Nat → Nat → Int32) (past : Nat → Int32) : Prop := ∃ x k, x < 6 ∧ k ≤ 6 ∧ nx = nI x ∧ kn = nI k ∧ un = nI k ∧ ∀ j, j < k → ∃ q, q = (x + 6 - k + j) % 6 ∧ RowB (rf q 0) (rf q 1) (rf q 2) (rf q 3) (rf q 4) (rf q 5) (rf q 6) (rf q 7) (ri q) (rl q) (rowAt past (30 * j)) ∧ RowV (rowAt past (30 * j))
def RSee (xn un : Int32) (yt yv vt vv : Nat → Int32) : Prop := ∃ n, n ≤ 6 ∧ xn = nI n ∧ un = nI n ∧ ∀ i, i < n → (∃ t, t ≤ 39 ∧ yt i = nI t ∧ vt i = nI t) ∧ yv i = vv i
def RImg (o : Option Nat) (kept : Int32) (vi vl vf : Nat → Int32) (r : Nat → Int32) : Prop := match o with
  | none => kept = 0
  | some _ => kept = 1 ∧ RowB (vf 0) (vf 1) (vf 2) (vf 3) (vf 4) (vf 5) (vf 6) (vf 7) vi vl r ∧ RowV r
def Rel (X : Nat → Int32) (Y ri rl rf : Nat → Nat → Int32) (im : Nat → Option Nat) (vi vl vf : Nat → Nat → Int32) (U : Nat → Int32) (V : Nat → Nat → Int32) (Z : Nat → Int64) : Prop :=
  RNow X Y V ∧ RTxt (X 16) (U 2) (Y 4) (V 7) ∧ RHis (X 21) (X 22) (U 0) ri rl rf (V 2) ∧ Y 5 0 = 0 ∧ RSee (X 31) (U 1) (Y 7) (Y 8) (V 5) (V 6) ∧ ∀ k, k < 2 → RImg (im k) (V 4 k) (vi k) (vl k) (vf k) (rowAt (V 3) (30 * k))
