/-! methods that make cells, that throw, and that catch -/
def xIO : String := "java/lang/IndexOutOfBoundsException"
def xIA : String := "java/lang/IllegalArgumentException"
def xIS : String := "java/lang/IllegalStateException"
def SX (U : State) : Prop := ∀ (own : String) (k : Nat) (tx : String), Cond.stringRef own k tx ∈ tables_1 → ∃ a, vk_R own k tx a U
def NX (U : State) : Prop := va_Nc xIA xIO U ∧ va_Nc xIS xIO U ∧ va_Nc xIS xIA U
def isCD : Cond → Bool
  | .castable .. => true
  | .declares .. => true
  | _ => false
theorem cd_tabs {w : Cond} (h : isCD w = true) : w.onTables = true := by cases w <;> first | rfl | cases h
def TX (U : State) : Prop := ∀ w ∈ lw_tbl, isCD w = true → va_Nw w U
theorem TX.warm {s U : State} (hW : s.WarmedH U.vm) (h : TX s) : TX U := fun w hw hn => by
  have h1 := h w hw hn
  cases w <;> first | exact va_Nw.warmC hW h1 | exact va_Nw.warmD hW h1 | cases hn
def VX (G : wG) (U : State) : Prop := KU G U ∧ SX U ∧ NX U ∧ va_AO "FoldedKeys$Corridor" U ∧ TX U
def ZQ (A : Nat → Prop) (U : State) (H : Heap) : Prop := vx_Zq Bundle.tN "UNASSIGNED_STACK" Bundle.steD A U H ∧ vx_Zq Bundle.tN "SUPPRESSED_SENTINEL" Bundle.listD A U H
theorem VX.warm {G : wG} {s U : State} (hW : s.WarmedH U.vm) (h : VX G s) : VX G U :=
  ⟨KU.warm hW h.1, fun o k t hm => by obtain ⟨a, ha⟩ := h.2.1 o k t hm; exact ⟨a, vk_R.warm hW ha⟩, ⟨va_Nc.moved hW.alike h.2.2.1.1, va_Nc.moved hW.alike h.2.2.1.2.1, va_Nc.moved hW.alike h.2.2.1.2.2⟩, va_AO.moved hW.alike h.2.2.2.1, TX.warm hW h.2.2.2.2⟩
theorem VX.call {G : wG} {U : State} {g : JFrame} {mk : MethodId} {a : Array Value} (h : VX G U) : VX G (U.calling g mk a) :=
  ⟨KU.call h.1, fun o k t hm => by obtain ⟨b, hb⟩ := h.2.1 o k t hm; exact ⟨b, vk_R.same (u := U) rfl hb⟩, ⟨va_Nc.moved (u := U) (Vm.Alike.refl U.vm) h.2.2.1.1, va_Nc.moved (u := U) (Vm.Alike.refl U.vm) h.2.2.1.2.1, va_Nc.moved (u := U) (Vm.Alike.refl U.vm) h.2.2.1.2.2⟩, va_AO.moved (u := U) (Vm.Alike.refl U.vm) h.2.2.2.1, fun w hw hn => va_Nw.same (cd_tabs hn) (u := U) rfl (h.2.2.2.2 w hw hn)⟩
theorem ZQ.to {A B : Nat → Prop} {s U : State} {H H1 : Heap} (h : ZQ A s H) (hvm : s.vm.Alike U.vm) (hq : ∀ a : Nat, a < H.size → ¬ A a → H1[a]? = H[a]?) (hAB : ∀ q, B q → A q) : ZQ B U H1 :=
  ⟨((vx_Zq.moved hvm h.1).kept hq).narrow hAB, ((vx_Zq.moved hvm h.2).kept hq).narrow hAB⟩
def conPcV (G : wG) (av : List Value) (wc : va_W) (sz : Nat) : Array Value → State → Prop := va_Pc av (fun U => U.heap.size = sz ∧ va_P G.1 vwCl wc U.heap ∧ VX G U ∧ va_D (fun _ => True) wc)
def conPcX (G : wG) (av : List Value) (wc : va_W) (sz : Nat) : Array Value → State → Prop := va_Pc av (fun U => U.heap.size = sz ∧ va_P G.1 vwCl wc U.heap ∧ VX G U ∧ va_D (fun _ => True) wc ∧ ZQ (va_A wc sz) U U.heap)
def conXC (G : wG) (wc : va_W) (sz : Nat) (QX : String → va_W → Prop) : String → State → State → Prop := fun E st t => ∃ w1 : va_W, QX E w1 ∧ w1.map (·.1) = wc.map (·.1) ∧ va_P G.1 vwCl w1 t.heap ∧ va_D (va_A wc sz) w1 ∧ va_F (va_A wc sz) st t
def ConN (l : Launch) (G : wG) (y : MethodName) (bytes : ByteArray) (maxL : Nat) (ret : Option FieldType) (d mc ms : Nat) (av : List Value) (wc : va_W) (Qr : Option Value → va_W → va_W → Prop) : Prop :=
  ∀ sz : Nat, Met l y (.code y bytes maxL ret :: WS) (rmD d mc ms) (conPcV G av wc sz) (conQc G wc sz Qr) mc ms (va_A wc sz)
def ConX (l : Launch) (G : wG) (y : MethodName) (bytes : ByteArray) (maxL : Nat) (ret : Option FieldType) (d mc ms : Nat) (av : List Value) (wc : va_W) (Qr : Option Value → va_W → va_W → Prop) (QX : String → va_W → Prop) : Prop :=
  ∀ sz : Nat, vx_Met l y (.code y bytes maxL ret :: WS) (rmD d mc ms) (conPcX G av wc sz) (conQc G wc sz Qr) (conXC G wc sz QX) mc ms (va_A wc sz)
def ConH (l : Launch) (G : wG) (y : MethodName) (bytes : ByteArray) (maxL : Nat) (ret : Option FieldType) (hh : List (Nat × Nat × Nat × Nat)) (d mc ms : Nat) (av : List Value) (wc : va_W) (Qr : Option Value → va_W → va_W → Prop) : Prop :=
  ∀ sz : Nat, Met l y (.codeWith y bytes maxL ret hh :: WS) (rmD d mc ms) (conPcX G av wc sz) (conQc G wc sz Qr) mc ms (va_A wc sz)
theorem conPcV_blind (G : wG) (av : List Value) (wc : va_W) (sz : Nat) : FrameBlind (conPcV G av wc sz) := fun a U g mk q => ⟨q.1, q.2.1, q.2.2.1, VX.call q.2.2.2.1, q.2.2.2.2⟩
theorem conPcX_blind (G : wG) (av : List Value) (wc : va_W) (sz : Nat) : FrameBlind (conPcX G av wc sz) := fun a U g mk q => ⟨q.1, q.2.1, q.2.2.1, VX.call q.2.2.2.1, q.2.2.2.2.1, ZQ.to (s := U) q.2.2.2.2.2 (Vm.Alike.refl U.vm) (fun _ _ _ => rfl) (fun _ h => h)⟩
def Cv (l : Launch) (G : wG) (own : String) (cc : ByteArray) (nL : Nat) (nm : String) (R : Room) (Ex : Array Value → State → (Nat → Prop) → Code → Prop) (P : PT) : Prop :=
  ∃ (p : Program) (e : Env) (s : State) (m : MethodId) (args : Array Value) (below : List Frame) (meth : Method) (c : Code) (A : Nat → Prop) (Q : State → Prop),
    (p.tables.exec = Jvm.exec ∧ c.code = cc ∧ c.maxLocals = nL ∧ meth.name = nm ∧ s.vm.findClass own = some m.cls ∧ (∀ w ∈ WS, w.before args s = true) ∧ KU G s ∧ (∀ q : Nat, s.heap.size ≤ q → A q)) ∧ (VX G s ∧ Ex args s A c) ∧
    P = fun k n pc lv st ws => ∀ (H : Heap) (locs : List Loc) (ls : Array Slot), va_P G.1 vwCl ws H → va_D A ws → va_S A s.heap H locs → lv_has ls nL lv → W p l e R s m args below meth c H locs k n Q (F0 m pc ls st)
theorem Cv.cx {l : Launch} {G : wG} {own : String} {cc : ByteArray} {nL : Nat} {nm : String} {R : Room} {Ex : Array Value → State → (Nat → Prop) → Code → Prop} {P : PT} (C : Cv l G own cc nL nm R Ex P) : Cx l G own cc nL nm R P := by
  obtain ⟨p, e, s, m, args, below, meth, c, A, Q, h1, h2, h3⟩ := C
  exact ⟨p, e, s, m, args, below, meth, c, A, Q, h1, h3⟩
abbrev exT : Array Value → State → (Nat → Prop) → Code → Prop := fun _ _ _ _ => True
abbrev exH (hh : List (Nat × Nat × Nat × Nat)) : Array Value → State → (Nat → Prop) → Code → Prop := fun _ s A c => ZQ A s s.heap ∧ c.exceptionTable.toList = tableOf hh
/-- the throw rule of a body -/
def TF (own : String) (ik ic : Nat) (cls : String) : Prop := ∃ names : List String, names.length ≤ 2 ∧ Bundle.fit cls = true ∧ (∀ n ∈ names, Bundle.fit n = true) ∧ Cond.classLink own ik cls ∈ WS ∧ Cond.initialized cls ∈ WS ∧ ∀ w ∈ vx_atS own ic cls names, w ∈ lw_tbl ∧ (goodWord w || isCD w) = true
def Tx (own : String) (cc : ByteArray) (mc ms : Nat) (wc : va_W) (QX : String → va_W → Prop) (P : PT) : Prop :=
  ∀ (k n pc : Nat) (lv : List (Nat × Value)) (st : List Value) (ws : va_W) (ik ic is : Nat) (cls text : String), TF own ik ic cls → Cond.stringRef own is text ∈ tables_1 → k + 1 ≤ mc → n + 6 ≤ ms →
    decode cc pc = .ok (.new ik, 3) → decode cc (pc + 3) = .ok (.dup, 1) → decode cc (pc + 4) = .ok (.ldc is, 2) → decode cc (pc + 6) = .ok (.invokespecial ic, 3) → decode cc (pc + 9) = .ok (.athrow, 1) →
    (st.map fun v => v.category).sum ≤ 8 → ws.map (·.1) = wc.map (·.1) → QX cls ws → P k n pc lv st ws
theorem ws_ot {w : Cond} (h : w ∈ WS) : vx_ot w = true := by
  have := (List.mem_filter.mp h).2
  cases w <;> simp_all [vx_ot]
section Mk9
variable {l : Launch} {G : wG} {y : MethodName} {bytes : ByteArray} {maxL : Nat} {ret : Option FieldType} {d mc ms : Nat} {av : List Value} {wc : va_W} {Qr : Option Value → va_W → va_W → Prop}
theorem ConN.mk (hpl : plainName y.cls = true) (hav : (lg_sl av).length ≤ maxL)
    (h : ∀ P : PT, Cv l G y.cls bytes maxL y.name (rmD d mc ms) exT P → Rt bytes ret mc ms wc Qr P → P 0 0 0 (lv_args 0 av) [] wc) : ConN l G y bytes maxL ret d mc ms av wc Qr := by
  intro sz
  refine Met.ofW (cc := bytes) (maxL := maxL) (ret := ret) hpl rfl ?_
  intro p e s m args below meth c s₁ B hml hv
  obtain ⟨rfl, hsz, hP, hVX, hD0⟩ := hv
  have hx := B.exec
  have hb := B.bytes
  have hr := B.returns
  have hts0 := atoms_spec (ws := Cond.code y bytes maxL ret :: WS) B.pre
  have hts : ∀ w ∈ WS, w.before av.toArray s = true := fun w hw => hts0 w (List.mem_cons_of_mem _ hw)
  have hown : s.vm.findClass y.cls = some m.cls := findClass_of_methodNamed B.named
  have hlocks := B.notSynchronized
  have hin : meth.name = y.name := (name_of_methodNamed B.named B.method).1
  subst hsz
  have hD := hD0.self (sz := s.heap.size)
  have hA : ∀ q : Nat, s.heap.size ≤ q → va_A wc s.heap.size q := fun q h => Or.inr h
  have hS : va_S (va_A wc s.heap.size) s.heap s.heap [] := va_S.rf
  have hl := lv_entry av (n := maxL) hav
  rw [lg_entry_eq]
  refine h _ ⟨p, e, s, m, av.toArray, below, meth, c, va_A wc s.heap.size, MQ below (conQc G wc s.heap.size Qr) av.toArray s mc ms (va_A wc s.heap.size), ⟨hx, hb, hml, hin, hown, hts, hVX.1, hA⟩, ⟨hVX, trivial⟩, rfl⟩ ?_ s.heap [] _ hP hD hS hl
  intro k n pc lv st ws ins r hk hn hd hret hfst hq H locs ls hP1 hD1 hS1 hl1
  refine W.widen hk hn ?_
  have hend : ∀ t : State, t.heap = H → s.WarmedH t.vm → conQc G wc s.heap.size Qr av.toArray s (.returned r) t := fun t ht hW => ⟨r, ws.take wc.length, ws.drop wc.length, rfl, hq, hfst, by rw [List.take_append_drop, ht]; exact hP1, by rw [List.take_append_drop]; exact hD1, hS1.F ht⟩
  rcases hret with ⟨h1, rfl, rfl, rfl⟩ | ⟨v, h1, rfl, rfl, rfl⟩ | ⟨v, h1, hv, rfl, rfl, rfl⟩ | ⟨v, h1, rfl, rfl, rfl⟩ | ⟨v, h1, rfl, rfl, rfl⟩ | ⟨v, Cn, h1, rfl, rfl, rfl⟩
  · exact W.vret hx hb (hr.trans h1) hend hS1.2.2 hd
  · exact W.iret hx hb (hr.trans h1) hend hS1.2.2 hd
  · exact W.zret hx hb (hr.trans h1) (by rcases hv with rfl | rfl <;> rfl) hend hS1.2.2 hd
  · exact W.lret hx hb (hr.trans h1) hend hS1.2.2 hd
  · exact W.dret hx hb (hr.trans h1) hend hS1.2.2 hd
  · exact W.aret hx hb (hr.trans h1) (Or.inl ⟨_, rfl⟩) (Or.inr ⟨_, rfl⟩) hend hS1.2.2 hd
theorem ConH.mk {hh : List (Nat × Nat × Nat × Nat)} (hpl : plainName y.cls = true) (hav : (lg_sl av).length ≤ maxL)
    (h : ∀ P : PT, Cv l G y.cls bytes maxL y.name (rmD d mc ms) (exH hh) P → Rt bytes ret mc ms wc Qr P → P 0 0 0 (lv_args 0 av) [] wc) : ConH l G y bytes maxL ret hh d mc ms av wc Qr := by
  intro sz
  refine MetFree.of_bodyS (code := bytes) (maxLocals := maxL) (ret := ret) hpl ?_ ?_
  · intro args s m h hn
    obtain ⟨m9, meth, c, hn9, h1, h2, h3, h4, -, h5, h6, -⟩ := Cond.codeWith_spec (atoms_spec (ws := Cond.codeWith y bytes maxL ret hh :: WS) h _ List.mem_cons_self)
    cases hn.symm.trans hn9
    exact ⟨meth, c, h1, h2, h3, h4, h5, h6⟩
  intro p e s m args below meth c s₁ B hml hv _
  have hh0 : s₁.heap = s.heap := by rw [B.state]; rfl
  obtain ⟨rfl, hsz, hP, hVX, hD0, hZ⟩ := hv
  have hx := B.exec
  have hb := B.bytes
  have hr := B.returns
  have hts0 := atoms_spec (ws := Cond.codeWith y bytes maxL ret hh :: WS) B.pre
  have htab := vx_table (x := y) B (hts0 _ List.mem_cons_self)
  have hts : ∀ w ∈ WS, w.before av.toArray s = true := fun w hw => hts0 w (List.mem_cons_of_mem _ hw)
  have hown : s.vm.findClass y.cls = some m.cls := findClass_of_methodNamed B.named
  have hlocks := B.notSynchronized
  have hin : meth.name = y.name := (name_of_methodNamed B.named B.method).1
  subst hsz
  have hD := hD0.self (sz := s.heap.size)
  have hA : ∀ q : Nat, s.heap.size ≤ q → va_A wc s.heap.size q := fun q h => Or.inr h
  have hS : va_S (va_A wc s.heap.size) s.heap s.heap [] := va_S.rf
  have hl := lv_entry av (n := maxL) hav
  have body : W p l e (rmD d mc ms) s m av.toArray below meth c s.heap [] 0 0 (MQ below (conQc G wc s.heap.size Qr) av.toArray s mc ms (va_A wc s.heap.size)) (entryFrame m av.toArray maxL) := by
    rw [lg_entry_eq]
    refine h _ ⟨p, e, s, m, av.toArray, below, meth, c, va_A wc s.heap.size, MQ below (conQc G wc s.heap.size Qr) av.toArray s mc ms (va_A wc s.heap.size), ⟨hx, hb, hml, hin, hown, hts, hVX.1, hA⟩, ⟨hVX, hZ, htab⟩, rfl⟩ ?_ s.heap [] _ hP hD hS hl
    intro k n pc lv st ws ins r hk hn hd hret hfst hq H locs ls hP1 hD1 hS1 hl1
    refine W.widen hk hn ?_
    have hend : ∀ t : State, t.heap = H → s.WarmedH t.vm → conQc G wc s.heap.size Qr av.toArray s (.returned r) t := fun t ht hW => ⟨r, ws.take wc.length, ws.drop wc.length, rfl, hq, hfst, by rw [List.take_append_drop, ht]; exact hP1, by rw [List.take_append_drop]; exact hD1, hS1.F ht⟩
    rcases hret with ⟨h1, rfl, rfl, rfl⟩ | ⟨v, h1, rfl, rfl, rfl⟩ | ⟨v, h1, hv, rfl, rfl, rfl⟩ | ⟨v, h1, rfl, rfl, rfl⟩ | ⟨v, h1, rfl, rfl, rfl⟩ | ⟨v, Cn, h1, rfl, rfl, rfl⟩
    · exact W.vret hx hb (hr.trans h1) hend hS1.2.2 hd
    · exact W.iret hx hb (hr.trans h1) hend hS1.2.2 hd
    · exact W.zret hx hb (hr.trans h1) (by rcases hv with rfl | rfl <;> rfl) hend hS1.2.2 hd
    · exact W.lret hx hb (hr.trans h1) hend hS1.2.2 hd
    · exact W.dret hx hb (hr.trans h1) hend hS1.2.2 hd
    · exact W.aret hx hb (hr.trans h1) (Or.inl ⟨_, rfl⟩) (Or.inr ⟨_, rfl⟩) hend hS1.2.2 hd
  obtain ⟨t, a1, o, b1, b2, b3⟩ := body s₁ hh0 (Stand.of_body B)
  exact ⟨t, o, a1, b1, b2, ⟨b3.1, b3.2⟩⟩
theorem ConX.mk {QX : String → va_W → Prop} (hlt : l.stackTraces = false) (hd6 : 6 ≤ d) (hpl : plainName y.cls = true) (hav : (lg_sl av).length ≤ maxL)
    (h : ∀ P : PT, Cx l G y.cls bytes maxL y.name (rmD d mc ms) P → Rt bytes ret mc ms wc Qr P → Tx y.cls bytes mc ms wc QX P → P 0 0 0 (lv_args 0 av) [] wc) : ConX l G y bytes maxL ret d mc ms av wc Qr QX := by
  intro sz
  refine vx_ofW (cc := bytes) (maxL := maxL) (ret := ret) hpl rfl ?_
  intro p e s m args below meth c s₁ B hml hout hv
  obtain ⟨rfl, hsz, hP, hVX, hD0, hZ⟩ := hv
  have hx := B.exec
  have hb := B.bytes
  have hr := B.returns
  have hts0 := atoms_spec (ws := Cond.code y bytes maxL ret :: WS) B.pre
  have hts : ∀ w ∈ WS, w.before av.toArray s = true := fun w hw => hts0 w (List.mem_cons_of_mem _ hw)
  have hown : s.vm.findClass y.cls = some m.cls := findClass_of_methodNamed B.named
  have hlocks := B.notSynchronized
  have hin : meth.name = y.name := (name_of_methodNamed B.named B.method).1
  subst hsz
  have hD := hD0.self (sz := s.heap.size)
  have hA : ∀ q : Nat, s.heap.size ≤ q → va_A wc s.heap.size q := fun q h => Or.inr h
  have hS : va_S (va_A wc s.heap.size) s.heap s.heap [] := va_S.rf
  have hl := lv_entry av (n := maxL) hav
  rw [lg_entry_eq]
  refine h _ ⟨p, e, s, m, av.toArray, below, meth, c, va_A wc s.heap.size, vx_MQ below (conQc G wc s.heap.size Qr) (conXC G wc s.heap.size QX) av.toArray s mc ms (va_A wc s.heap.size), ⟨hx, hb, hml, hin, hown, hts, hVX.1, hA⟩, rfl⟩ ?_ ?_ s.heap [] _ hP hD hS hl
  · intro k n pc lv st ws ins r hk hn hd hret hfst hq H locs ls hP1 hD1 hS1 hl1
    refine vx_ret ?_
    refine W.widen hk hn ?_
    have hend : ∀ t : State, t.heap = H → s.WarmedH t.vm → conQc G wc s.heap.size Qr av.toArray s (.returned r) t := fun t ht hW => ⟨r, ws.take wc.length, ws.drop wc.length, rfl, hq, hfst, by rw [List.take_append_drop, ht]; exact hP1, by rw [List.take_append_drop]; exact hD1, hS1.F ht⟩
    rcases hret with ⟨h1, rfl, rfl, rfl⟩ | ⟨v, h1, rfl, rfl, rfl⟩ | ⟨v, h1, hv, rfl, rfl, rfl⟩ | ⟨v, h1, rfl, rfl, rfl⟩ | ⟨v, h1, rfl, rfl, rfl⟩ | ⟨v, Cn, h1, rfl, rfl, rfl⟩
    · exact W.vret hx hb (hr.trans h1) hend hS1.2.2 hd
    · exact W.iret hx hb (hr.trans h1) hend hS1.2.2 hd
    · exact W.zret hx hb (hr.trans h1) (by rcases hv with rfl | rfl <;> rfl) hend hS1.2.2 hd
    · exact W.lret hx hb (hr.trans h1) hend hS1.2.2 hd
    · exact W.dret hx hb (hr.trans h1) hend hS1.2.2 hd
    · exact W.aret hx hb (hr.trans h1) (Or.inl ⟨_, rfl⟩) (Or.inr ⟨_, rfl⟩) hend hS1.2.2 hd
  · intro k n pc lv st ws ik ic is cls text ⟨names, n1, n2, n3, n4, n5, n6⟩ hstr hk hn d0 d3 d4 d6 d9 hcat hfst hq H locs ls hP1 hD1 hS1 hl1
    obtain ⟨sa, hsa⟩ := hVX.2.1 _ _ _ hstr
    have hat : ∀ w : Cond, (w ∈ lw_tbl ∧ (goodWord w || isCD w) = true) → w.before av.toArray s = true := by
      intro w hw
      have h2 := hw.2
      rw [Bool.or_eq_true] at h2
      rcases h2 with g | g
      · exact hts w (List.mem_filter.mpr ⟨hw.1, g⟩)
      · exact va_Nw.use (cd_tabs g) (hVX.2.2.2.2 w hw.1 g)
    refine vx_throwS (A := va_A wc s.heap.size) (names := names) hx hb hlt hown n2 n3 (hts _ n4) (hts _ n5) hsa (fun w hw => hat w (n6 w hw)) (fun w hw => ?_) hZ.1 hZ.2 hS1 (by rw [hml]; exact hl1.1) d0 d3 d4 d6 d9 (fun x hx9 => (hout x hx9).elim) ?_ ?_ ?_ ?_ hlocks ?_ hS1.2.2 hk hn
    · rcases List.mem_cons.mp hw with e1 | h9
      · rw [e1]; exact ws_ot n4
      · rcases List.mem_cons.mp h9 with e2 | h10
        · rw [e2]; exact ws_ot n5
        · have g := (n6 w h10).2
          rw [Bool.or_eq_true] at g
          rcases g with g | g
          · exact ws_ot (List.mem_filter.mpr ⟨(n6 w h10).1, g⟩)
          · unfold vx_ot; rw [cd_tabs g]; rfl
    · show names.length + 3 < d
      omega
    · show _ ≤ 38 * d
      omega
    · exact hk
    · exact hn
    · intro t hvm hsz hk9
      exact ⟨ws, hq, hfst, fun k q hkq => (hP1 k q hkq).kept (hk9 q.1 (hP1 k q hkq).lt), hD1, Nat.le_trans hS1.1 hsz, fun q a1 a2 => by rw [hk9 q (Nat.lt_of_lt_of_le a1 hS1.1)]; exact hS1.2.1 q a1 a2⟩
end Mk9
