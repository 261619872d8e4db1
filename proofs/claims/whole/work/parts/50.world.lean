def wY (cy : Nat → ClassId) (A ra rb rc : Nat → Nat) (im : Nat → Option Nat) (X : Nat → Int32) (Y ri rl rf : Nat → Nat → Int32) : va_W := [((A 0), .inr (7, [.ref (A 1), .ref (A 4), .ref (A 7), .ref (A 9), .ref (A 11), .ref (A 15), .ref (A 17), .ref (A 23), .ref (A 24)])), ((A 1), .inr (0, [.ref (A 2), .ref (A 3), .int (X 0), .int (X 1), .int (X 2), .int (X 3), .int (X 4), .int (X 5), .int (X 6), .int (X 7)])), ((A 2), .inl (cy 0, 12, .inl (Y 0))), ((A 3), .inl (cy 0, 10, .inl (Y 1))), ((A 4), .inr (0, [.ref (A 5), .ref (A 6), .int (X 8), .int (X 9), .int (X 10), .int (X 11), .int (X 12), .int (X 13), .int (X 14), .int (X 15)])), ((A 5), .inl (cy 0, 12, .inl (Y 2))), ((A 6), .inl (cy 0, 10, .inl (Y 3))), ((A 7), .inr (6, [.ref (A 8), .int (X 16), .int (X 17), .int (X 18), .int (X 19), .int (X 20)])), ((A 8), .inl (cy 0, 120, .inl (Y 4))), ((A 9), .inr (3, [.ref (A 10), .int (X 21), .int (X 22)])), ((A 10), .inl (cy 2, 6, .inr (.inr (.inr (.inr (fun i => some (ra i))))))), ((ra 0), .inr (0, [.ref (rb 0), .ref (rc 0), .int (rf 0 0), .int (rf 0 1), .int (rf 0 2), .int (rf 0 3), .int (rf 0 4), .int (rf 0 5), .int (rf 0 6), .int (rf 0 7)])), ((rb 0), .inl (cy 0, 12, .inl (ri 0))), ((rc 0), .inl (cy 0, 10, .inl (rl 0))), ((ra 1), .inr (0, [.ref (rb 1), .ref (rc 1), .int (rf 1 0), .int (rf 1 1), .int (rf 1 2), .int (rf 1 3), .int (rf 1 4), .int (rf 1 5), .int (rf 1 6), .int (rf 1 7)])), ((rb 1), .inl (cy 0, 12, .inl (ri 1))), ((rc 1), .inl (cy 0, 10, .inl (rl 1))), ((ra 2), .inr (0, [.ref (rb 2), .ref (rc 2), .int (rf 2 0), .int (rf 2 1), .int (rf 2 2), .int (rf 2 3), .int (rf 2 4), .int (rf 2 5), .int (rf 2 6), .int (rf 2 7)])), ((rb 2), .inl (cy 0, 12, .inl (ri 2))), ((rc 2), .inl (cy 0, 10, .inl (rl 2))), ((ra 3), .inr (0, [.ref (rb 3), .ref (rc 3), .int (rf 3 0), .int (rf 3 1), .int (rf 3 2), .int (rf 3 3), .int (rf 3 4), .int (rf 3 5), .int (rf 3 6), .int (rf 3 7)])), ((rb 3), .inl (cy 0, 12, .inl (ri 3))), ((rc 3), .inl (cy 0, 10, .inl (rl 3))), ((ra 4), .inr (0, [.ref (rb 4), .ref (rc 4), .int (rf 4 0), .int (rf 4 1), .int (rf 4 2), .int (rf 4 3), .int (rf 4 4), .int (rf 4 5), .int (rf 4 6), .int (rf 4 7)])), ((rb 4), .inl (cy 0, 12, .inl (ri 4))), ((rc 4), .inl (cy 0, 10, .inl (rl 4))), ((ra 5), .inr (0, [.ref (rb 5), .ref (rc 5), .int (rf 5 0), .int (rf 5 1), .int (rf 5 2), .int (rf 5 3), .int (rf 5 4), .int (rf 5 5), .int (rf 5 6), .int (rf 5 7)])), ((rb 5), .inl (cy 0, 12, .inl (ri 5))), ((rc 5), .inl (cy 0, 10, .inl (rl 5))), ((A 11), .inr (4, [.ref (A 12), .ref (A 13), .ref (A 14), .int (X 23)])), ((A 12), .inl (cy 0, 13, .inl (Y 5))), ((A 13), .inr (1, [.int (X 24), .int (X 25)])), ((A 14), .inr (1, [.int (X 26), .int (X 27)])), ((A 15), .inr (2, [.ref (A 16), .int (X 28), .int (X 29), .int (X 30)])), ((A 16), .inl (cy 0, 1000, .inl (Y 6))), ((A 17), .inr (5, [.ref (A 18), .ref (A 19), .ref (A 20), .ref (A 21), .ref (A 22), .int (X 31), .int (X 32)])), ((A 18), .inl (cy 0, 6, .inl (Y 7))), ((A 19), .inl (cy 0, 6, .inl (Y 8))), ((A 20), .inl (cy 0, 100, .inl (Y 9))), ((A 21), .inl (cy 0, 100, .inl (Y 10))), ((A 22), .inl (cy 0, 1000, .inl (Y 11))), ((A 23), .inr (1, [.int (X 33), .int (X 34)])), ((A 24), .inl (cy 2, 2, .inr (.inr (.inr (.inr im)))))]
def wM (cy : Nat → ClassId) (B : Nat → Nat) (U : Nat → Int32) (V : Nat → Nat → Int32) (Z : Nat → Int64) : va_W := [((B 0), .inr (8, [.ref (B 1), .ref (B 2), .ref (B 3), .int (U 0), .ref (B 4), .ref (B 5), .ref (B 6), .ref (B 7), .int (U 1), .ref (B 8), .int (U 2), .int (U 3), .int (U 4), .int (U 5), .int (U 6), .int (U 7), .int (U 8), .long (Z 0), .long (Z 1), .long (Z 2), .long (Z 3), .ref (B 9), .ref (B 10), .ref (B 11), .ref (B 12)])), ((B 1), .inl (cy 0, 30, .inl (V 0))), ((B 2), .inl (cy 0, 30, .inl (V 1))), ((B 3), .inl (cy 0, 180, .inl (V 2))), ((B 4), .inl (cy 0, 60, .inl (V 3))), ((B 5), .inl (cy 1, 2, .inl (V 4))), ((B 6), .inl (cy 0, 6, .inl (V 5))), ((B 7), .inl (cy 0, 6, .inl (V 6))), ((B 8), .inl (cy 0, 120, .inl (V 7))), ((B 9), .inl (cy 0, 1000, .inl (V 8))), ((B 10), .inl (cy 0, 1000, .inl (V 9))), ((B 11), .inl (cy 0, 4000, .inl (V 10))), ((B 12), .inl (cy 1, 100, .inl (V 11)))]
def wI (cy : Nat → ClassId) (o : Option Nat) (qa qb : Nat) (vi vl vf : Nat → Int32) : va_W := match o with
  | none => []
  | some q => [(q, .inr (0, [.ref qa, .ref qb, .int (vf 0), .int (vf 1), .int (vf 2), .int (vf 3), .int (vf 4), .int (vf 5), .int (vf 6), .int (vf 7)])), (qa, .inl (cy 0, 12, .inl vi)), (qb, .inl (cy 0, 10, .inl vl))]
theorem va_nd_iff : ∀ l : List Nat, va_nd l = true ↔ l.Nodup
  | [] => by simp [va_nd]
  | a :: l => by simp [va_nd, va_nd_iff l]
theorem ap_map {wl tl : va_W} (is : List Nat) (h : ∀ i ∈ is, i < wl.length) : is.map (fun i => (wl ++ tl)[i]?) = is.map (fun i => wl[i]?) := List.map_congr_left (fun i hi => List.getElem?_append_left (h i hi))
theorem fm_map {wl : va_W} : ∀ (is : List Nat) (_ : ∀ i ∈ is, i < wl.length), is.map (fun i => wl[i]?) = (is.filterMap (fun i => wl[i]?)).map some
  | [], _ => rfl
  | a :: is, h => by
    have ha : a < wl.length := h a List.mem_cons_self
    have e : wl[a]? = some wl[a] := List.getElem?_eq_getElem ha
    rw [List.map_cons, List.filterMap_cons, e]
    show some wl[a] :: _ = some wl[a] :: _
    rw [fm_map is (fun i hi => h i (List.mem_cons_of_mem _ hi))]
theorem tl_map {wl tl : va_W} : ((List.range tl.length).map (wl.length + ·)).map (fun i => (wl ++ tl)[i]?) = tl.map some := by
  apply List.ext_getElem?
  intro k
  rw [List.getElem?_map, List.getElem?_map, List.getElem?_map]
  by_cases hk : k < tl.length
  · rw [List.getElem?_range hk]
    simp [List.getElem?_append_right, hk]
  · simp [hk, List.getElem?_eq_none (Nat.not_lt.mp hk)]
section XVL
variable {p : Program} {l : Launch} {e : Env} {R : Room} {s : State} {m : MethodId} {args : Array Value} {below : List Frame} {meth : Method} {c : Code} {H : Heap} {locs : List Loc} {cells slots : Nat} {Q : State → Prop}
variable {G : va_G} {cy : Nat → ClassId} {kz : Nat → Nat} {N0 : Nat} {A0 : Nat → Prop} {wl tl wr wc wc' canon : va_W} {pc : Nat} {ls : Array Slot} {rest st0 : List Value} {mc ms : Nat} {rv : Option Value}
variable {y : MethodName} {cc bytes : ByteArray} {nL maxL n index d : Nat} {ret : Option FieldType} {own C : String} {b : Addr} {As : List Value}
theorem x_VL (hM : ∀ Bp : va_W → Prop, Bp wc' → CT l G cy kz N0 y bytes maxL ret d mc ms (.ref b :: As) wc rv Bp) (hx : p.tables.exec = Jvm.exec) (hb : c.code = cc) (hml : c.maxLocals = nL) (hown : s.vm.findClass own = some m.cls) (hB : ∀ w ∈ BW, w.before args s = true) (hE : EK G cy kz N0 s) (hN : N0 ≤ s.heap.size) (hNA : ∀ q : Nat, A0 q → N0 ≤ q)
    (w1 : Cond.methodLink own index y ∈ BW) (w2 : Cond.instanceMethod y ∈ BW) (w3 : Cond.selects C y y ∈ BW) (w4 : Cond.initialized C ∈ BW) (w5 : Cond.code y bytes maxL ret ∈ BW) (hd : y.cls = C ∧ y.cls ≠ "java/lang/invoke/MethodHandle" ∧ y.cls ≠ "java/lang/invoke/VarHandle" ∧ (parseMethodDescriptor y.desc).map (fun d => d.parameters.length) = some As.length) (hRm : d + 1 ≤ R.frames ∧ 8 + (maxL + 11) + 64 * d ≤ R.locals ∧ cells + mc ≤ R.cells ∧ slots + ms ≤ R.slots)
    (hP : va_P G classes (wl ++ tl) H) (hD : va_D A0 (wl ++ tl)) (hS : va_S A0 s.heap H locs) (hA : ∀ q : Nat, s.heap.size ≤ q → A0 q) (q0 ci : Nat) {fs : List Value} {q : vw_C} (hq : wl[q0]? = some (b, .inr (ci, fs))) (hc : classes[ci]? = some q) (hqC : q.1 = C) (isC isR perm : List Nat) (nl : Nat) (hnl : wl.length = nl) (hC : isC.map (fun i => wl[i]?) = wc.map some) (hR : isR.map (fun i => wl[i]?) = wr.map some) (hlt : (∀ i ∈ isC, i < nl) ∧ ∀ i ∈ isR, i < nl) (hnd : va_nd isC = true ∧ va_nd isR = true ∧ va_nd perm = true) (hdis : ∀ i ∈ isR, i ∉ isC)
    (hcan : perm.map (fun i => (wr ++ wc')[i]?) = canon.map some)
    (hls : ls.size = nL) (hst : st0 = As.reverse ++ .ref b :: rest) (hrest : (rest.map fun v => v.category).sum ≤ 8) (hdg : decode cc pc = .ok (.invokevirtual index, 3))
    (kk : ∀ (H1 : Heap) (locs1 : List Loc), va_P G classes (canon ++ tl) H1 → va_D A0 (canon ++ tl) → va_S A0 s.heap H1 locs1 → W p l e R s m args below meth c H1 locs1 (cells + mc) (slots + ms) Q (F0 m (pc + 3) ls (rv.toList ++ rest))) : W p l e R s m args below meth c H locs cells slots Q (F0 m pc ls st0) := by
  subst hnl
  have hq' : (wl ++ tl)[q0]? = some (b, .inr (ci, fs)) := by rw [List.getElem?_append_left (List.getElem?_eq_some_iff.mp hq).1]; exact hq
  refine x_V (wr := wr ++ tl) (As := As) (rest := rest) (hM (fun w => w = wc') rfl) hx hb hml hown hB hE hN hNA w1 w2 w3 w4 w5 hd hRm hP hD hS hA q0 ci hq' hc hqC isC (isR ++ (List.range tl.length).map (wl.length + ·)) ((ap_map isC hlt.1).trans hC) ?_ ⟨hnd.1, ?_⟩ ?_ hls hst hrest hdg (fun w H1 locs1 hw hP1 hD1 hS1 => ?_)
  · rw [List.map_append, List.map_append, ap_map isR hlt.2, hR, tl_map]
  · rw [va_nd_iff, List.nodup_append]
    refine ⟨(va_nd_iff _).mp hnd.2.1, ?_, ?_⟩
    · refine List.Pairwise.map _ (fun a b h h2 => h (by simpa using h2)) List.nodup_range
    · intro a ha b hb h
      have h1 := hlt.2 a ha
      obtain ⟨k, -, rfl⟩ := List.mem_map.mp hb
      omega
  · intro i hi
    rcases List.mem_append.mp hi with h | h
    · exact hdis i h
    · intro h2
      have h1 := hlt.1 i h2
      obtain ⟨k, -, rfl⟩ := List.mem_map.mp h
      omega
  · subst hw
    exact kk H1 locs1 (hP1.swap.part perm hcan) (hD1.swap.part perm hnd.2.2 hcan) hS1
end XVL
