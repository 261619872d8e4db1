/-! ===== rows for pure functions that may have no answer ===== -/
theorem iteP {α : Type} {c : Prop} [Decidable c] {a b : Option α} {o : α} (hc : c) (h : (if c then a else b) = some o) : a = some o := by rw [if_pos hc] at h; exact h
theorem iteN {α : Type} {c : Prop} [Decidable c] {a b : Option α} {o : α} (hc : ¬ c) (h : (if c then a else b) = some o) : b = some o := by rw [if_neg hc] at h; exact h
theorem gdn {α : Type} {c : Prop} [Decidable c] {a : Option α} {o : α} (h : (if c then none else a) = some o) : ¬ c ∧ a = some o := by
  by_cases hc : c
  · rw [if_pos hc] at h; cases h
  · rw [if_neg hc] at h; exact ⟨hc, h⟩
theorem obn {α β : Type} {f : Option α} {g : α → Option β} {o : β} (h : f.bind g = some o) : ∃ z, f = some z ∧ g z = some o := Option.bind_eq_some_iff.mp h
theorem sml {α β γ : Type} {f : α → γ} {g : β → γ} {x : α} {o : γ} (h : Sum.elim f g (.inl x) = o) : f x = o := h
theorem smr {α β γ : Type} {f : α → γ} {g : β → γ} {x : β} {o : γ} (h : Sum.elim f g (.inr x) = o) : g x = o := h
/-! ===== the words that every method of this claim shares, and what goes along with every world ===== -/
theorem bw_good {w : Cond} (h : w ∈ BW) : (w.onTables && w.keeps) = true ∨ ∃ ty, w = .arrayClass ty := good_of_word (List.mem_filter.mp h).2
theorem bw_in {y : MethodName} {cc : ByteArray} {n : Nat} {r : Option FieldType} (h : Cond.code y cc n r ∈ BW) : GoodIn BW (Cond.code y cc n r :: BW) := by
  intro w hw
  rcases List.mem_cons.mp hw with rfl | hw
  · exact ⟨h, bw_good h⟩
  · exact ⟨hw, bw_good hw⟩
def NW (U : State) : Prop := (∀ q ∈ nestF, va_Nw (.fieldLinkNest q.1 q.2.1 q.2.2.1 q.2.2.2.1 q.2.2.2.2.1 q.2.2.2.2.2) U) ∧ ∀ q ∈ nestM, va_Nw (.methodLinkNest q.1 q.2.1 q.2.2.1 q.2.2.2) U
theorem NW.warm {s U : State} (hW : s.WarmedH U.vm) (h : NW s) : NW U := ⟨fun q hq => va_Nw.warmF hW (h.1 q hq), fun q hq => va_Nw.warmM hW (h.2 q hq)⟩
theorem NW.same {u U : State} (e : u.vm = U.vm) (h : NW u) : NW U := ⟨fun q hq => va_Nw.same rfl e (h.1 q hq), fun q hq => va_Nw.same rfl e (h.2 q hq)⟩
def sK : Nat → Int32 := fun j => match j with | 0 => 105 | 1 => 100 | 2 => 99 | _ => 101
def sF : Nat → Int32 := fun j => match j with | 0 => 1 | 1 => 1 | 2 => 1 | _ => 10
def sM : Nat → Int32 := fun j => match j with | 0 => 12 | 1 => 1 | 2 => 1 | _ => 10
def sG : Nat → Int32 := fun j => match j with | 0 => 99 | 1 => 99 | 2 => 999 | _ => 9
def SZ1 (n d : String) (ty : FieldType) (k : Nat) (f : Nat → Int32) (N0 : Nat) (U : State) (H : Heap) : Prop := va_Z "YieldDesk$TellText" n d (.ref k) (fun q => N0 ≤ q) U H ∧ va_T ty k 4 (fun j => .int (f j)) (fun q => N0 ≤ q) U H
theorem SZ1.moved {n d : String} {ty : FieldType} {k : Nat} {f : Nat → Int32} {N0 : Nat} {u U : State} {H : Heap} (hvm : u.vm.Alike U.vm) (h : SZ1 n d ty k f N0 u H) : SZ1 n d ty k f N0 U H := ⟨h.1.moved hvm, h.2.moved hvm⟩
theorem SZ1.kept {n d : String} {ty : FieldType} {k : Nat} {f : Nat → Int32} {N0 : Nat} {U : State} {H H1 : Heap} (h : SZ1 n d ty k f N0 U H) (hq : ∀ a : Nat, a < H.size → ¬ N0 ≤ a → H1[a]? = H[a]?) : SZ1 n d ty k f N0 U H1 := ⟨h.1.kept hq, h.2.kept hq⟩
def SZ (kz : Nat → Nat) (N0 : Nat) (U : State) (H : Heap) : Prop := SZ1 "KINDS" "[C" .char (kz 0) sK N0 U H ∧ SZ1 "FEWEST" "[I" .int (kz 1) sF N0 U H ∧ SZ1 "MOST" "[I" .int (kz 2) sM N0 U H ∧ SZ1 "GREATEST" "[I" .int (kz 3) sG N0 U H
theorem SZ.moved {kz : Nat → Nat} {N0 : Nat} {u U : State} {H : Heap} (hvm : u.vm.Alike U.vm) (h : SZ kz N0 u H) : SZ kz N0 U H := ⟨h.1.moved hvm, h.2.1.moved hvm, h.2.2.1.moved hvm, h.2.2.2.moved hvm⟩
theorem SZ.kept {kz : Nat → Nat} {N0 : Nat} {U : State} {H H1 : Heap} (h : SZ kz N0 U H) (hq : ∀ a : Nat, a < H.size → ¬ N0 ≤ a → H1[a]? = H[a]?) : SZ kz N0 U H1 := ⟨h.1.kept hq, h.2.1.kept hq, h.2.2.1.kept hq, h.2.2.2.kept hq⟩
abbrev tys (cy : Nat → ClassId) : List (ClassId × FieldType) := [(cy 0, .int), (cy 1, .boolean), (cy 2, .object "YieldDesk$Basin")]
def EK (G : va_G) (cy : Nat → ClassId) (kz : Nat → Nat) (N0 : Nat) (U : State) : Prop := va_K G classes (tys cy) U ∧ NW U ∧ va_AO "YieldDesk$Basin" U ∧ SZ kz N0 U U.heap
theorem EK.go {G : va_G} {cy : Nat → ClassId} {kz : Nat → Nat} {N0 : Nat} {s U : State} (h : EK G cy kz N0 s) (hW : s.WarmedH U.vm) (hq : ∀ a : Nat, a < s.heap.size → ¬ N0 ≤ a → U.heap[a]? = s.heap[a]?) : EK G cy kz N0 U :=
  ⟨va_K.moved hW.alike h.1, h.2.1.warm hW, h.2.2.1.moved hW.alike, (h.2.2.2.moved hW.alike).kept hq⟩
theorem EK.calling {G : va_G} {cy : Nat → ClassId} {kz : Nat → Nat} {N0 : Nat} {U : State} {g : JFrame} {mk : MethodId} {a : Array Value} (h : EK G cy kz N0 U) : EK G cy kz N0 (U.calling g mk a) :=
  ⟨va_K.moved (u := U) (U := U.calling g mk a) (Vm.Alike.refl U.vm) h.1, NW.same (u := U) rfl h.2.1, va_AO.moved (u := U) (U := U.calling g mk a) (Vm.Alike.refl U.vm) h.2.2.1, SZ.moved (u := U) (U := U.calling g mk a) (Vm.Alike.refl U.vm) h.2.2.2⟩
/-! ===== a contract of this claim: the world ws at the start, the answer rv, a world with Bp at the end ===== -/
def CP (G : va_G) (cy : Nat → ClassId) (kz : Nat → Nat) (N0 : Nat) (av : List Value) (ws : va_W) (sz : Nat) : Array Value → State → Prop := va_Pc av (fun U => U.heap.size = sz ∧ va_P G classes ws U.heap ∧ va_D (fun q => N0 ≤ q) ws ∧ N0 ≤ sz ∧ EK G cy kz N0 U)
def CQ (G : va_G) (rv : Option Value) (Bp : va_W → Prop) (A : Nat → Prop) : Array Value → State → Outcome → State → Prop := fun _ st oc t => oc = .returned rv ∧ (∃ w, Bp w ∧ va_P G classes w t.heap ∧ va_D A w) ∧ va_F A st t
abbrev RM (d mc ms : Nat) : Room := { frames := d, cells := mc, slots := ms, locals := 64 * d }
def CT (l : Launch) (G : va_G) (cy : Nat → ClassId) (kz : Nat → Nat) (N0 : Nat) (y : MethodName) (cc : ByteArray) (nL : Nat) (ret : Option FieldType) (d mc ms : Nat) (av : List Value) (ws : va_W) (rv : Option Value) (Bp : va_W → Prop) : Prop :=
  ∀ sz : Nat, Met l y (Cond.code y cc nL ret :: BW) (RM d mc ms) (CP G cy kz N0 av ws sz) (CQ G rv Bp (va_A ws sz)) mc ms (va_A ws sz)
theorem cp_blind (G : va_G) (cy : Nat → ClassId) (kz : Nat → Nat) (N0 : Nat) (av : List Value) (ws : va_W) (sz : Nat) : FrameBlind (CP G cy kz N0 av ws sz) := by
  intro a U g mk q
  obtain ⟨q0, q1, q2, q3, q4, q5⟩ := q
  exact ⟨q0, q1, q2, q3, q4, q5.calling⟩
/-- the start of a contract's proof -/
theorem CT.of {l : Launch} {G : va_G} {cy : Nat → ClassId} {kz : Nat → Nat} {N0 : Nat} {y : MethodName} {cc : ByteArray} {nL : Nat} {ret : Option FieldType} {d mc ms : Nat} {av : List Value} {ws : va_W} {rv : Option Value} {Bp : va_W → Prop} (hy : plainName y.cls = true) (hav : (lg_sl av).length ≤ nL)
    (body : ∀ (p : Program) (e : Env) (s : State) (m : MethodId) (below : List Frame) (meth : Method) (c : Code) (A : Nat → Prop) (ls : Array Slot), p.tables.exec = Jvm.exec → c.code = cc → meth.sig.returnType = ret → c.maxLocals = nL → (∀ w ∈ BW, w.before av.toArray s = true) → s.vm.findClass y.cls = some m.cls → meth.locks = false → meth.name = y.name → EK G cy kz N0 s → N0 ≤ s.heap.size → (∀ q : Nat, s.heap.size ≤ q → A q) → (∀ q : Nat, A q → N0 ≤ q) → va_P G classes ws s.heap → va_D A ws → va_S A s.heap s.heap [] → lv_has ls nL (lv_args 0 av) →
      W p l e (RM d mc ms) s m av.toArray below meth c s.heap [] 0 0 (MQ below (CQ G rv Bp A) av.toArray s mc ms A) (F0 m 0 ls [])) : CT l G cy kz N0 y cc nL ret d mc ms av ws rv Bp := by
  intro sz
  refine Met.ofW (cc := cc) (maxL := nL) (ret := ret) hy rfl ?_
  intro p e s m args below meth c s₁ B hml hv
  obtain ⟨rfl, hsz, hP, hD0, hN, hE⟩ := hv
  subst hsz
  have hts := atoms_spec (ws := Cond.code y cc nL ret :: BW) B.pre
  have hl := lv_entry av (n := nL) hav
  rw [lg_entry_eq]
  generalize (lg_sl av ++ List.replicate (nL - (lg_sl av).length) Slot.unset).toArray = ls at hl ⊢
  refine body p e s m below meth c _ ls B.exec B.bytes B.returns hml (fun w h => hts w (List.mem_cons_of_mem _ h)) (findClass_of_methodNamed B.named) B.notSynchronized (name_of_methodNamed B.named B.method).1 hE hN (fun q h => Or.inr h) ?_ hP (hD0.self) va_S.rf hl
  intro q h
  rcases h with ⟨k, e, h⟩ | h
  · exact hD0.2 k _ h
  · exact Nat.le_trans hN h
/-- the end -/
theorem x_ret {G : va_G} {rv : Option Value} {Bp : va_W → Prop} {A : Nat → Prop} {s : State} {w : va_W} {H : Heap} {locs : List Loc} {a : Array Value} (hP : va_P G classes w H) (hD : va_D A w) (hS : va_S A s.heap H locs) (hb : Bp w) : ∀ t : State, t.heap = H → s.WarmedH t.vm → CQ G rv Bp A a s (.returned rv) t :=
  fun t ht _ => ⟨rfl, ⟨w, hb, by rw [ht]; exact hP, hD⟩, hS.F ht⟩
section XC
variable {p : Program} {l : Launch} {e : Env} {R : Room} {s : State} {m : MethodId} {args : Array Value} {below : List Frame} {meth : Method} {c : Code} {H : Heap} {locs : List Loc} {cells slots : Nat} {Q : State → Prop}
variable {G : va_G} {cy : Nat → ClassId} {kz : Nat → Nat} {N0 : Nat} {A0 : Nat → Prop} {ws wc wr : va_W} {pc : Nat} {ls : Array Slot} {rest st0 : List Value} {a : Array Value} {mc ms : Nat} {rv : Option Value} {Bp : va_W → Prop}
theorem x_go (hr : va_Run p l e R s m args below meth c H locs cells slots mc ms (F0 m pc ls st0) rest (CQ G rv Bp (va_A wc H.size) a) (va_A wc H.size))
    (hP : va_P G classes ws H) (hD : va_D A0 ws) (hS : va_S A0 s.heap H locs) (hA : ∀ q : Nat, s.heap.size ≤ q → A0 q) (isC isR : List Nat) (hC : isC.map (fun i => ws[i]?) = wc.map some) (hR : isR.map (fun i => ws[i]?) = wr.map some) (hn : va_nd isR = true) (hdis : ∀ i ∈ isR, i ∉ isC)
    (kk : ∀ (w : va_W) (H1 : Heap) (locs1 : List Loc), Bp w → va_P G classes (wr ++ w) H1 → va_D A0 (wr ++ w) → va_S A0 s.heap H1 locs1 → W p l e R s m args below meth c H1 locs1 (cells + mc) (slots + ms) Q (F0 m (pc + 3) ls (rv.toList ++ rest))) : W p l e R s m args below meth c H locs cells slots Q (F0 m pc ls st0) := by
  intro T hT X
  obtain ⟨v, st₀, t, T', L, h0, X', hL, e1, e2, ⟨hv, ⟨w, hb, hPw, hDw⟩, hz, hk⟩, st⟩ := hr T hT X
  have hv' : v = rv := by cases hv; rfl
  subst hv'
  rw [h0] at hz hk
  have hF := va_free (wc := wc) hD hS hA isC hC
  have hk' : ∀ q : Nat, q < H.size → ¬ va_A wc H.size q → T'.heap[q]? = H[q]? := fun q h1 h2 => by rw [e1]; exact hk q h1 h2
  obtain ⟨hP2, hD2⟩ := va_join (wr := wr) (w1 := w) hP hD isC isR hC hR hn hdis hk' hF (by rw [e1]; exact hPw) hDw
  obtain ⟨t2, a1, b1⟩ := kk w T'.heap (locs ++ L) hb hP2 hD2
    ⟨Nat.le_trans hS.1 (by rw [e1]; exact hz), fun q h1 h2 => by rw [hk' q (Nat.lt_of_lt_of_le h1 hS.1) (fun z => h2 (hF q z))]; exact hS.2.1 q h1 h2, fun q hq => by
      rcases List.mem_append.mp hq with h | h
      · exact hS.2.2 q h
      · exact hF _ (hL q h)⟩ T' rfl X'
  exact ⟨t2, st t2 a1, b1⟩
variable {y : MethodName} {cc bytes : ByteArray} {nL maxL n index d : Nat} {ret : Option FieldType} {own C host : String} {b : Addr} {As : List Value}
theorem x_pre (av : List Value) (hE : EK G cy kz N0 s) (hN : N0 ≤ s.heap.size) (hNA : ∀ q : Nat, A0 q → N0 ≤ q) (hP : va_P G classes ws H) (hD : va_D A0 ws) (hS : va_S A0 s.heap H locs) (isC : List Nat) (hnC : va_nd isC = true) (hC : isC.map (fun i => ws[i]?) = wc.map some) :
    ∀ U : State, U.heap = H → s.WarmedH U.vm → CP G cy kz N0 av wc H.size av.toArray U := by
  intro U hU hW
  have hDc : va_D A0 wc := hD.sub isC hnC hC
  refine ⟨rfl, by rw [hU], ?_, hDc.weaken (fun k q _ h => hNA q.1 h), Nat.le_trans hN hS.1, hE.go hW (fun a h1 h2 => by rw [hU]; exact hS.2.1 a h1 (fun z => h2 (hNA a z)))⟩
  rw [hU]
  intro k q hq
  have h1 : (isC.map (fun i => ws[i]?))[k]? = some (some q) := by rw [hC, List.getElem?_map, hq]; rfl
  rw [List.getElem?_map] at h1
  cases hi : isC[k]? with
  | none => rw [hi] at h1; cases h1
  | some i => rw [hi] at h1; exact hP i q (Option.some.inj h1)
theorem x_V (hM : CT l G cy kz N0 y bytes maxL ret d mc ms (.ref b :: As) wc rv Bp) (hx : p.tables.exec = Jvm.exec) (hb : c.code = cc) (hml : c.maxLocals = nL) (hown : s.vm.findClass own = some m.cls) (hB : ∀ w ∈ BW, w.before args s = true) (hE : EK G cy kz N0 s) (hN : N0 ≤ s.heap.size) (hNA : ∀ q : Nat, A0 q → N0 ≤ q)
    (w1 : Cond.methodLink own index y ∈ BW) (w2 : Cond.instanceMethod y ∈ BW) (w3 : Cond.selects C y y ∈ BW) (w4 : Cond.initialized C ∈ BW) (w5 : Cond.code y bytes maxL ret ∈ BW) (hd : y.cls = C ∧ y.cls ≠ "java/lang/invoke/MethodHandle" ∧ y.cls ≠ "java/lang/invoke/VarHandle" ∧ (parseMethodDescriptor y.desc).map (fun d => d.parameters.length) = some As.length) (hRm : d + 1 ≤ R.frames ∧ 8 + (maxL + 11) + 64 * d ≤ R.locals ∧ cells + mc ≤ R.cells ∧ slots + ms ≤ R.slots)
    (hP : va_P G classes ws H) (hD : va_D A0 ws) (hS : va_S A0 s.heap H locs) (hA : ∀ q : Nat, s.heap.size ≤ q → A0 q) (q0 ci : Nat) {fs : List Value} {q : vw_C} (hq : ws[q0]? = some (b, .inr (ci, fs))) (hc : classes[ci]? = some q) (hqC : q.1 = C) (isC isR : List Nat) (hC : isC.map (fun i => ws[i]?) = wc.map some) (hR : isR.map (fun i => ws[i]?) = wr.map some) (hnd : va_nd isC = true ∧ va_nd isR = true) (hdis : ∀ i ∈ isR, i ∉ isC)
    (hls : ls.size = nL) (hst : st0 = As.reverse ++ .ref b :: rest) (hrest : (rest.map fun v => v.category).sum ≤ 8) (hdg : decode cc pc = .ok (.invokevirtual index, 3))
    (kk : ∀ (w : va_W) (H1 : Heap) (locs1 : List Loc), Bp w → va_P G classes (wr ++ w) H1 → va_D A0 (wr ++ w) → va_S A0 s.heap H1 locs1 → W p l e R s m args below meth c H1 locs1 (cells + mc) (slots + ms) Q (F0 m (pc + 3) ls (rv.toList ++ rest))) : W p l e R s m args below meth c H locs cells slots Q (F0 m pc ls st0) := by
  subst hqC
  have hT : GoodIn BW (wsV own index q.1 y (Cond.code y bytes maxL ret :: BW)) := by
    intro w hw
    rcases List.mem_append.mp hw with hw | hw
    · simp only [List.mem_cons, List.not_mem_nil, or_false] at hw
      rcases hw with rfl | rfl | rfl | rfl
      · exact ⟨w1, bw_good w1⟩
      · exact ⟨w2, bw_good w2⟩
      · exact ⟨w3, bw_good w3⟩
      · exact ⟨w4, bw_good w4⟩
    · exact bw_in w5 w hw
  refine x_go (va_runV (As := As) (rest := rest) ⟨hx, hb, hml, hown, hB⟩ (hM H.size) (cwV As.length hB hT rfl rfl rfl hd ⟨hRm.1, hRm.2.1⟩) ⟨cp_blind _ _ _ _ _ _ _, va_recv hE.1 hP hc hq, x_pre _ hE hN hNA hP hD hS isC hnd.1 hC⟩ rfl rfl hls hst (by simpa using hrest) hdg hRm.2.2) hP hD hS hA isC isR hC hR hnd.2 hdis kk
theorem x_S (hM : CT l G cy kz N0 y bytes maxL ret d mc ms As wc rv Bp) (hx : p.tables.exec = Jvm.exec) (hb : c.code = cc) (hml : c.maxLocals = nL) (hown : s.vm.findClass own = some m.cls) (hB : ∀ w ∈ BW, w.before args s = true) (hE : EK G cy kz N0 s) (hN : N0 ≤ s.heap.size) (hNA : ∀ q : Nat, A0 q → N0 ≤ q)
    (w1 : Cond.methodLink own index y ∈ BW) (w2 : Cond.static y ∈ BW) (w4 : Cond.initialized y.cls ∈ BW) (w5 : Cond.code y bytes maxL ret ∈ BW) (hd : y.cls ≠ "java/lang/invoke/MethodHandle" ∧ y.cls ≠ "java/lang/invoke/VarHandle" ∧ (parseMethodDescriptor y.desc).map (fun d => d.parameters.length) = some As.length) (hRm : d + 1 ≤ R.frames ∧ 8 + (maxL + 11) + 64 * d ≤ R.locals ∧ cells + mc ≤ R.cells ∧ slots + ms ≤ R.slots)
    (hP : va_P G classes ws H) (hD : va_D A0 ws) (hS : va_S A0 s.heap H locs) (hA : ∀ q : Nat, s.heap.size ≤ q → A0 q) (isC isR : List Nat) (hC : isC.map (fun i => ws[i]?) = wc.map some) (hR : isR.map (fun i => ws[i]?) = wr.map some) (hnd : va_nd isC = true ∧ va_nd isR = true) (hdis : ∀ i ∈ isR, i ∉ isC)
    (hls : ls.size = nL) (hst : st0 = As.reverse ++ rest) (hrest : (rest.map fun v => v.category).sum ≤ 8) (hdg : decode cc pc = .ok (.invokestatic index, 3))
    (kk : ∀ (w : va_W) (H1 : Heap) (locs1 : List Loc), Bp w → va_P G classes (wr ++ w) H1 → va_D A0 (wr ++ w) → va_S A0 s.heap H1 locs1 → W p l e R s m args below meth c H1 locs1 (cells + mc) (slots + ms) Q (F0 m (pc + 3) ls (rv.toList ++ rest))) : W p l e R s m args below meth c H locs cells slots Q (F0 m pc ls st0) := by
  refine x_go (va_runS (As := As) (rest := rest) ⟨hx, hb, hml, hown, hB⟩ (hM H.size) ⟨callB_of As.length hB (bw_in w5) rfl rfl rfl (hB _ w4) (hB _ w1) hd ⟨hRm.1, hRm.2.1⟩, hB _ w2⟩ ⟨cp_blind _ _ _ _ _ _ _, x_pre _ hE hN hNA hP hD hS isC hnd.1 hC⟩ rfl rfl hls hst (by simpa using hrest) hdg hRm.2.2) hP hD hS hA isC isR hC hR hnd.2 hdis kk
theorem x_SN (hM : CT l G cy kz N0 y bytes maxL ret d mc ms As wc rv Bp) (hx : p.tables.exec = Jvm.exec) (hb : c.code = cc) (hml : c.maxLocals = nL) (hown : s.vm.findClass own = some m.cls) (hB : ∀ w ∈ BW, w.before args s = true) (hE : EK G cy kz N0 s) (hN : N0 ≤ s.heap.size) (hNA : ∀ q : Nat, A0 q → N0 ≤ q)
    (w1 : (own, index, y, host) ∈ nestM) (w2 : Cond.static y ∈ BW) (w4 : Cond.initialized y.cls ∈ BW) (w5 : Cond.code y bytes maxL ret ∈ BW) (hd : y.cls ≠ "java/lang/invoke/MethodHandle" ∧ y.cls ≠ "java/lang/invoke/VarHandle" ∧ (parseMethodDescriptor y.desc).map (fun d => d.parameters.length) = some As.length) (hRm : d + 1 ≤ R.frames ∧ 8 + (maxL + 11) + 64 * d ≤ R.locals ∧ cells + mc ≤ R.cells ∧ slots + ms ≤ R.slots)
    (hP : va_P G classes ws H) (hD : va_D A0 ws) (hS : va_S A0 s.heap H locs) (hA : ∀ q : Nat, s.heap.size ≤ q → A0 q) (isC isR : List Nat) (hC : isC.map (fun i => ws[i]?) = wc.map some) (hR : isR.map (fun i => ws[i]?) = wr.map some) (hnd : va_nd isC = true ∧ va_nd isR = true) (hdis : ∀ i ∈ isR, i ∉ isC)
    (hls : ls.size = nL) (hst : st0 = As.reverse ++ rest) (hrest : (rest.map fun v => v.category).sum ≤ 8) (hdg : decode cc pc = .ok (.invokestatic index, 3))
    (kk : ∀ (w : va_W) (H1 : Heap) (locs1 : List Loc), Bp w → va_P G classes (wr ++ w) H1 → va_D A0 (wr ++ w) → va_S A0 s.heap H1 locs1 → W p l e R s m args below meth c H1 locs1 (cells + mc) (slots + ms) Q (F0 m (pc + 3) ls (rv.toList ++ rest))) : W p l e R s m args below meth c H locs cells slots Q (F0 m pc ls st0) := by
  refine x_go (va_runSN (As := As) (rest := rest) ⟨hx, hb, hml, hown, hB⟩ (hM H.size) ⟨va_cnB As.length hB (bw_in w5) rfl rfl rfl (hE.2.1.2 _ w1) (hB _ w4) hd ⟨hRm.1, hRm.2.1⟩, hB _ w2, trivial⟩ ⟨cp_blind _ _ _ _ _ _ _, x_pre _ hE hN hNA hP hD hS isC hnd.1 hC⟩ rfl rfl hls hst (by simpa using hrest) hdg hRm.2.2) hP hD hS hA isC isR hC hR hnd.2 hdis kk
theorem x_I (hM : CT l G cy kz N0 y bytes maxL none d mc ms (.ref b :: As) wc rv Bp) (hx : p.tables.exec = Jvm.exec) (hb : c.code = cc) (hml : c.maxLocals = nL) (hown : s.vm.findClass own = some m.cls) (hB : ∀ w ∈ BW, w.before args s = true) (hE : EK G cy kz N0 s) (hN : N0 ≤ s.heap.size) (hNA : ∀ q : Nat, A0 q → N0 ≤ q)
    (w1 : Cond.methodLink own index y ∈ BW) (w2 : Cond.instanceMethod y ∈ BW) (w4 : Cond.initialized y.cls ∈ BW) (w5 : Cond.code y bytes maxL none ∈ BW) (hyn : y.name = "<init>") (hd : y.cls ≠ "java/lang/invoke/MethodHandle" ∧ y.cls ≠ "java/lang/invoke/VarHandle" ∧ (parseMethodDescriptor y.desc).map (fun d => d.parameters.length) = some As.length) (hRm : d + 1 ≤ R.frames ∧ 8 + (maxL + 11) + 64 * d ≤ R.locals ∧ cells + mc ≤ R.cells ∧ slots + ms ≤ R.slots)
    (hP : va_P G classes ws H) (hD : va_D A0 ws) (hS : va_S A0 s.heap H locs) (hA : ∀ q : Nat, s.heap.size ≤ q → A0 q) (isC isR : List Nat) (hC : isC.map (fun i => ws[i]?) = wc.map some) (hR : isR.map (fun i => ws[i]?) = wr.map some) (hnd : va_nd isC = true ∧ va_nd isR = true) (hdis : ∀ i ∈ isR, i ∉ isC)
    (hls : ls.size = nL) (hst : st0 = As.reverse ++ .ref b :: rest) (hrest : (rest.map fun v => v.category).sum ≤ 8) (hdg : decode cc pc = .ok (.invokespecial index, 3))
    (kk : ∀ (w : va_W) (H1 : Heap) (locs1 : List Loc), Bp w → va_P G classes (wr ++ w) H1 → va_D A0 (wr ++ w) → va_S A0 s.heap H1 locs1 → W p l e R s m args below meth c H1 locs1 (cells + mc) (slots + ms) Q (F0 m (pc + 3) ls (rv.toList ++ rest))) : W p l e R s m args below meth c H locs cells slots Q (F0 m pc ls st0) := by
  refine x_go (va_runI (As := As) (rest := rest) ⟨hx, hb, hml, hown, hB⟩ (hM H.size) (cwI As.length hB (bw_in w5) rfl rfl rfl (hB _ w4) (hB _ w1) (hB _ w2) hyn hd ⟨hRm.1, hRm.2.1⟩) ⟨cp_blind _ _ _ _ _ _ _, x_pre _ hE hN hNA hP hD hS isC hnd.1 hC⟩ rfl rfl hls hst (by simpa using hrest) hdg hRm.2.2) hP hD hS hA isC isR hC hR hnd.2 hdis kk
theorem x_IN (hM : CT l G cy kz N0 y bytes maxL none d mc ms (.ref b :: As) wc rv Bp) (hx : p.tables.exec = Jvm.exec) (hb : c.code = cc) (hml : c.maxLocals = nL) (hown : s.vm.findClass own = some m.cls) (hB : ∀ w ∈ BW, w.before args s = true) (hE : EK G cy kz N0 s) (hN : N0 ≤ s.heap.size) (hNA : ∀ q : Nat, A0 q → N0 ≤ q)
    (w1 : (own, index, y, host) ∈ nestM) (w2 : Cond.instanceMethod y ∈ BW) (w4 : Cond.initialized y.cls ∈ BW) (w5 : Cond.code y bytes maxL none ∈ BW) (hyn : y.name = "<init>") (hd : y.cls ≠ "java/lang/invoke/MethodHandle" ∧ y.cls ≠ "java/lang/invoke/VarHandle" ∧ (parseMethodDescriptor y.desc).map (fun d => d.parameters.length) = some As.length) (hRm : d + 1 ≤ R.frames ∧ 8 + (maxL + 11) + 64 * d ≤ R.locals ∧ cells + mc ≤ R.cells ∧ slots + ms ≤ R.slots)
    (hP : va_P G classes ws H) (hD : va_D A0 ws) (hS : va_S A0 s.heap H locs) (hA : ∀ q : Nat, s.heap.size ≤ q → A0 q) (isC isR : List Nat) (hC : isC.map (fun i => ws[i]?) = wc.map some) (hR : isR.map (fun i => ws[i]?) = wr.map some) (hnd : va_nd isC = true ∧ va_nd isR = true) (hdis : ∀ i ∈ isR, i ∉ isC)
    (hls : ls.size = nL) (hst : st0 = As.reverse ++ .ref b :: rest) (hrest : (rest.map fun v => v.category).sum ≤ 8) (hdg : decode cc pc = .ok (.invokespecial index, 3))
    (kk : ∀ (w : va_W) (H1 : Heap) (locs1 : List Loc), Bp w → va_P G classes (wr ++ w) H1 → va_D A0 (wr ++ w) → va_S A0 s.heap H1 locs1 → W p l e R s m args below meth c H1 locs1 (cells + mc) (slots + ms) Q (F0 m (pc + 3) ls (rv.toList ++ rest))) : W p l e R s m args below meth c H locs cells slots Q (F0 m pc ls st0) := by
  refine x_go (va_runIN (As := As) (rest := rest) ⟨hx, hb, hml, hown, hB⟩ (hM H.size) ⟨va_cnB As.length hB (bw_in w5) rfl rfl rfl (hE.2.1.2 _ w1) (hB _ w4) hd ⟨hRm.1, hRm.2.1⟩, hyn, hB _ w2⟩ ⟨cp_blind _ _ _ _ _ _ _, x_pre _ hE hN hNA hP hD hS isC hnd.1 hC⟩ rfl rfl hls hst (by simpa using hrest) hdg hRm.2.2) hP hD hS hA isC isR hC hR hnd.2 hdis kk
theorem x_go0 (hr : va_Run p l e R s m args below meth c H locs cells slots mc ms (F0 m pc ls st0) rest (CQ G rv Bp (va_A [] H.size) a) (va_A [] H.size))
    (hP : va_P G classes ws H) (hD : va_D A0 ws) (hS : va_S A0 s.heap H locs) (hA : ∀ q : Nat, s.heap.size ≤ q → A0 q)
    (kk : ∀ (H1 : Heap) (locs1 : List Loc), va_P G classes ws H1 → va_D A0 ws → va_S A0 s.heap H1 locs1 → W p l e R s m args below meth c H1 locs1 (cells + mc) (slots + ms) Q (F0 m (pc + 3) ls (rv.toList ++ rest))) : W p l e R s m args below meth c H locs cells slots Q (F0 m pc ls st0) := by
  intro T hT X
  obtain ⟨v, st₀, t, T', L, h0, X', hL, e1, e2, ⟨hv, ⟨w, hb, hPw, hDw⟩, hz, hk⟩, st⟩ := hr T hT X
  have hv' : v = rv := by cases hv; rfl
  subst hv'
  rw [h0] at hz hk
  have hno : ∀ q : Nat, q < H.size → ¬ va_A [] H.size q := fun q h1 h2 => by
    rcases h2 with ⟨k, e, h⟩ | h
    · simp at h
    · omega
  have hk' : ∀ q : Nat, q < H.size → T'.heap[q]? = H[q]? := fun q h1 => by rw [e1]; exact hk q h1 (hno q h1)
  have hF : ∀ q : Nat, va_A [] H.size q → A0 q := fun q h2 => by
    rcases h2 with ⟨k, e, h⟩ | h
    · simp at h
    · exact hA q (Nat.le_trans hS.1 h)
  obtain ⟨t2, a1, b1⟩ := kk T'.heap (locs ++ L) (hP.kept (fun k q hq => hk' q.1 (hP k q hq).lt)) hD
    ⟨Nat.le_trans hS.1 (by rw [e1]; exact hz), fun q h1 h2 => by rw [hk' q (Nat.lt_of_lt_of_le h1 hS.1)]; exact hS.2.1 q h1 h2, fun q hq => by
      rcases List.mem_append.mp hq with h | h
      · exact hS.2.2 q h
      · exact hF _ (hL q h)⟩ T' rfl X'
  exact ⟨t2, st t2 a1, b1⟩
theorem x_pre0 (av : List Value) (hE : EK G cy kz N0 s) (hN : N0 ≤ s.heap.size) (hNA : ∀ q : Nat, A0 q → N0 ≤ q) (hS : va_S A0 s.heap H locs) :
    ∀ U : State, U.heap = H → s.WarmedH U.vm → CP G cy kz N0 av [] H.size av.toArray U := by
  intro U hU hW
  exact ⟨rfl, by rw [hU], fun k q hq => by simp at hq, ⟨fun i j p q hp => by simp at hp, fun k q hq => by simp at hq⟩, Nat.le_trans hN hS.1, hE.go hW (fun a h1 h2 => by rw [hU]; exact hS.2.1 a h1 (fun z => h2 (hNA a z)))⟩
theorem x_S0 (hM : CT l G cy kz N0 y bytes maxL ret d mc ms As [] rv Bp) (hx : p.tables.exec = Jvm.exec) (hb : c.code = cc) (hml : c.maxLocals = nL) (hown : s.vm.findClass own = some m.cls) (hB : ∀ w ∈ BW, w.before args s = true) (hE : EK G cy kz N0 s) (hN : N0 ≤ s.heap.size) (hNA : ∀ q : Nat, A0 q → N0 ≤ q)
    (w1 : Cond.methodLink own index y ∈ BW) (w2 : Cond.static y ∈ BW) (w4 : Cond.initialized y.cls ∈ BW) (w5 : Cond.code y bytes maxL ret ∈ BW) (hd : y.cls ≠ "java/lang/invoke/MethodHandle" ∧ y.cls ≠ "java/lang/invoke/VarHandle" ∧ (parseMethodDescriptor y.desc).map (fun d => d.parameters.length) = some As.length) (hRm : d + 1 ≤ R.frames ∧ 8 + (maxL + 11) + 64 * d ≤ R.locals ∧ cells + mc ≤ R.cells ∧ slots + ms ≤ R.slots)
    (hP : va_P G classes ws H) (hD : va_D A0 ws) (hS : va_S A0 s.heap H locs) (hA : ∀ q : Nat, s.heap.size ≤ q → A0 q)
    (hls : ls.size = nL) (hst : st0 = As.reverse ++ rest) (hrest : (rest.map fun v => v.category).sum ≤ 8) (hdg : decode cc pc = .ok (.invokestatic index, 3))
    (kk : ∀ (H1 : Heap) (locs1 : List Loc), va_P G classes ws H1 → va_D A0 ws → va_S A0 s.heap H1 locs1 → W p l e R s m args below meth c H1 locs1 (cells + mc) (slots + ms) Q (F0 m (pc + 3) ls (rv.toList ++ rest))) : W p l e R s m args below meth c H locs cells slots Q (F0 m pc ls st0) := by
  refine x_go0 (va_runS (As := As) (rest := rest) ⟨hx, hb, hml, hown, hB⟩ (hM H.size) ⟨callB_of As.length hB (bw_in w5) rfl rfl rfl (hB _ w4) (hB _ w1) hd ⟨hRm.1, hRm.2.1⟩, hB _ w2⟩ ⟨cp_blind _ _ _ _ _ _ _, x_pre0 _ hE hN hNA hS⟩ rfl rfl hls hst (by simpa using hrest) hdg hRm.2.2) hP hD hS hA kk
theorem x_SN0 (hM : CT l G cy kz N0 y bytes maxL ret d mc ms As [] rv Bp) (hx : p.tables.exec = Jvm.exec) (hb : c.code = cc) (hml : c.maxLocals = nL) (hown : s.vm.findClass own = some m.cls) (hB : ∀ w ∈ BW, w.before args s = true) (hE : EK G cy kz N0 s) (hN : N0 ≤ s.heap.size) (hNA : ∀ q : Nat, A0 q → N0 ≤ q)
    (w1 : (own, index, y, host) ∈ nestM) (w2 : Cond.static y ∈ BW) (w4 : Cond.initialized y.cls ∈ BW) (w5 : Cond.code y bytes maxL ret ∈ BW) (hd : y.cls ≠ "java/lang/invoke/MethodHandle" ∧ y.cls ≠ "java/lang/invoke/VarHandle" ∧ (parseMethodDescriptor y.desc).map (fun d => d.parameters.length) = some As.length) (hRm : d + 1 ≤ R.frames ∧ 8 + (maxL + 11) + 64 * d ≤ R.locals ∧ cells + mc ≤ R.cells ∧ slots + ms ≤ R.slots)
    (hP : va_P G classes ws H) (hD : va_D A0 ws) (hS : va_S A0 s.heap H locs) (hA : ∀ q : Nat, s.heap.size ≤ q → A0 q)
    (hls : ls.size = nL) (hst : st0 = As.reverse ++ rest) (hrest : (rest.map fun v => v.category).sum ≤ 8) (hdg : decode cc pc = .ok (.invokestatic index, 3))
    (kk : ∀ (H1 : Heap) (locs1 : List Loc), va_P G classes ws H1 → va_D A0 ws → va_S A0 s.heap H1 locs1 → W p l e R s m args below meth c H1 locs1 (cells + mc) (slots + ms) Q (F0 m (pc + 3) ls (rv.toList ++ rest))) : W p l e R s m args below meth c H locs cells slots Q (F0 m pc ls st0) := by
  refine x_go0 (va_runSN (As := As) (rest := rest) ⟨hx, hb, hml, hown, hB⟩ (hM H.size) ⟨va_cnB As.length hB (bw_in w5) rfl rfl rfl (hE.2.1.2 _ w1) (hB _ w4) hd ⟨hRm.1, hRm.2.1⟩, hB _ w2, trivial⟩ ⟨cp_blind _ _ _ _ _ _ _, x_pre0 _ hE hN hNA hS⟩ rfl rfl hls hst (by simpa using hrest) hdg hRm.2.2) hP hD hS hA kk
end XC
def FU : Nat := 2000
