/-! A judgement of our own over the kit's W: P k n pc lv st ws says that the machine, at pc of a method's body with the locals lv, the stack st and the cells ws, k cells of n slots made so far, comes to its due end. -/
abbrev wG : Type := va_G × ClassId × ClassId × ClassId
abbrev aI (G : wG) (n : Nat) (f : Nat → Int32) : va_E := .inl (G.2.1, n, .inl f)
abbrev aJ (G : wG) (n : Nat) (f : Nat → Int64) : va_E := .inl (G.2.2.1, n, .inr (.inl f))
abbrev aQ (G : wG) (n : Nat) (f : Nat → Option Nat) : va_E := .inl (G.2.2.2, n, .inr (.inr (.inr (.inr f))))
abbrev ob (ci : Nat) (fs : List Value) : va_E := .inr (ci, fs)
abbrev wTys (G : wG) : List (ClassId × FieldType) := [(G.2.1, .int), (G.2.2.1, .long), (G.2.2.2, .object "FoldedKeys$Corridor")]
def isNest : Cond → Bool
  | .fieldLinkNest .. => true
  | .methodLinkNest .. => true
  | _ => false
def KU (G : wG) (U : State) : Prop := va_K G.1 vwCl (wTys G) U ∧ ∀ w ∈ tables_1, isNest w = true → va_Nw w U
theorem nest_tabs {w : Cond} (h : isNest w = true) : w.onTables = true := by cases w <;> first | rfl | cases h
theorem KU.warm {G : wG} {s U : State} (hW : s.WarmedH U.vm) (h : KU G s) : KU G U := by
  refine ⟨va_K.moved hW.alike h.1, fun w hw hn => ?_⟩
  have h1 := h.2 w hw hn
  cases w <;> first | exact va_Nw.warmF hW h1 | exact va_Nw.warmM hW h1 | cases hn
theorem KU.call {G : wG} {U : State} {g : JFrame} {mk : MethodId} {a : Array Value} (h : KU G U) : KU G (U.calling g mk a) :=
  ⟨va_K.moved (u := U) (U := U.calling g mk a) (Vm.Alike.refl U.vm) h.1, fun w hw hn => va_Nw.same (nest_tabs hn) (u := U) rfl (h.2 w hw hn)⟩
def WS : List Cond := lw_tbl.filter goodWord
theorem WS_in {w : Cond} (i : Nat) (h : lw_tbl[i]? = some w) (hg : goodWord w = true) : w ∈ WS := List.mem_filter.mpr ⟨List.mem_of_getElem? h, hg⟩
theorem WS_good {ws : List Cond} (h : ∀ w ∈ ws, w ∈ WS) {big : List Cond} (hb : ∀ w ∈ WS, w ∈ big) : GoodIn big ws := fun w hw => ⟨hb w (h w hw), good_of_word (List.mem_filter.mp (h w hw)).2⟩
def rmD (d mc ms : Nat) : Room := { frames := d, cells := mc, slots := ms, locals := 38 * d }
def conPc (G : wG) (av : List Value) (wc : va_W) (sz : Nat) : Array Value → State → Prop := va_Pc av (fun U => U.heap.size = sz ∧ va_P G.1 vwCl wc U.heap ∧ KU G U ∧ va_D (fun _ => True) wc)
def conQc (G : wG) (wc : va_W) (sz : Nat) (Qr : Option Value → va_W → va_W → Prop) : Array Value → State → Outcome → State → Prop := fun _ st o t =>
  ∃ (r : Option Value) (w1 w2 : va_W), o = .returned r ∧ Qr r w1 w2 ∧ w1.map (·.1) = wc.map (·.1) ∧ va_P G.1 vwCl (w1 ++ w2) t.heap ∧ va_D (va_A wc sz) (w1 ++ w2) ∧ va_F (va_A wc sz) st t
def Con (l : Launch) (G : wG) (y : MethodName) (bytes : ByteArray) (maxL : Nat) (ret : Option FieldType) (d mc ms : Nat) (av : List Value) (wc : va_W) (Qr : Option Value → va_W → va_W → Prop) : Prop :=
  ∀ sz : Nat, Met l y (.code y bytes maxL ret :: WS) (rmD d mc ms) (conPc G av wc sz) (conQc G wc sz Qr) mc ms (va_A wc sz)
theorem conPc_blind (G : wG) (av : List Value) (wc : va_W) (sz : Nat) : FrameBlind (conPc G av wc sz) := fun a U g mk q => ⟨q.1, q.2.1, q.2.2.1, KU.call q.2.2.2.1, q.2.2.2.2⟩
abbrev PT : Type := Nat → Nat → Nat → List (Nat × Value) → List Value → va_W → Prop
def Cx (l : Launch) (G : wG) (own : String) (cc : ByteArray) (nL : Nat) (nm : String) (R : Room) (P : PT) : Prop :=
  ∃ (p : Program) (e : Env) (s : State) (m : MethodId) (args : Array Value) (below : List Frame) (meth : Method) (c : Code) (A : Nat → Prop) (Q : State → Prop),
    (p.tables.exec = Jvm.exec ∧ c.code = cc ∧ c.maxLocals = nL ∧ meth.name = nm ∧ s.vm.findClass own = some m.cls ∧ (∀ w ∈ WS, w.before args s = true) ∧ KU G s ∧ (∀ q : Nat, s.heap.size ≤ q → A q)) ∧
    P = fun k n pc lv st ws => ∀ (H : Heap) (locs : List Loc) (ls : Array Slot), va_P G.1 vwCl ws H → va_D A ws → va_S A s.heap H locs → lv_has ls nL lv → W p l e R s m args below meth c H locs k n Q (F0 m pc ls st)
/-! locals -/
def lkL : List (Nat × Value) → Nat → Option Value
  | [], _ => none
  | q :: t, i => bif Nat.beq q.1 i then some q.2 else lkL t i
theorem lkL_mem : ∀ {l : List (Nat × Value)} {i : Nat} {v : Value}, lkL l i = some v → (i, v) ∈ l
  | q :: t, i, v, h => by
    unfold lkL at h
    cases hq : Nat.beq q.1 i with
    | true =>
      rw [hq] at h
      have e1 : q.1 = i := Nat.eq_of_beq_eq_true hq
      have e2 : q.2 = v := by simpa using h
      have : q = (i, v) := by rw [← e1, ← e2]
      rw [this]; exact List.mem_cons_self
    | false =>
      rw [hq] at h
      exact List.mem_cons_of_mem _ (lkL_mem (by simpa using h))
def dlL : List (Nat × Value) → Nat → List (Nat × Value)
  | [], _ => []
  | q :: t, i => bif Nat.beq q.1 i then dlL t i else q :: dlL t i
def upL : List (Nat × Value) → Nat → Value → List (Nat × Value)
  | [], i, v => [(i, v)]
  | q :: t, i, v => bif Nat.beq q.1 i then (i, v) :: dlL t i else q :: upL t i v
/-- no long or double lies just below i -/
def ok1 : List (Nat × Value) → Nat → Bool
  | [], _ => true
  | q :: t, i => (bif Nat.beq (q.1 + 1) i then Nat.beq q.2.category 1 else true) && ok1 t i
def ok2 : List (Nat × Value) → Nat → Bool
  | [], _ => true
  | q :: t, i => (bif Nat.beq q.1 (i + 1) then false else true) && ok2 t i
theorem dlL_mem : ∀ {l : List (Nat × Value)} {i : Nat} {q : Nat × Value}, q ∈ dlL l i → q ∈ l ∧ q.1 ≠ i
  | a :: t, i, q, h => by
    unfold dlL at h
    cases ha : Nat.beq a.1 i with
    | true =>
      rw [ha] at h
      exact ⟨List.mem_cons_of_mem _ (dlL_mem (by simpa using h)).1, (dlL_mem (by simpa using h)).2⟩
    | false =>
      rw [ha] at h
      rcases List.mem_cons.mp (by simpa using h) with rfl | h1
      · exact ⟨List.mem_cons_self, fun e => by rw [e, Nat.beq_refl] at ha; cases ha⟩
      · exact ⟨List.mem_cons_of_mem _ (dlL_mem h1).1, (dlL_mem h1).2⟩
theorem upL_mem : ∀ {l : List (Nat × Value)} {i : Nat} {v : Value} {q : Nat × Value}, q ∈ upL l i v → q = (i, v) ∨ (q ∈ l ∧ q.1 ≠ i)
  | [], i, v, q, h => Or.inl (by simpa [upL] using h)
  | a :: t, i, v, q, h => by
    unfold upL at h
    cases ha : Nat.beq a.1 i with
    | true =>
      rw [ha] at h
      rcases List.mem_cons.mp (by simpa using h) with rfl | h1
      · exact Or.inl rfl
      · exact Or.inr ⟨List.mem_cons_of_mem _ (dlL_mem h1).1, (dlL_mem h1).2⟩
    | false =>
      rw [ha] at h
      rcases List.mem_cons.mp (by simpa using h) with rfl | h1
      · exact Or.inr ⟨List.mem_cons_self, fun e => by rw [e, Nat.beq_refl] at ha; cases ha⟩
      · rcases upL_mem h1 with h2 | h2
        · exact Or.inl h2
        · exact Or.inr ⟨List.mem_cons_of_mem _ h2.1, h2.2⟩
theorem ok1_mem : ∀ {l : List (Nat × Value)} {i : Nat}, ok1 l i = true → ∀ q ∈ l, q.1 + 1 = i → q.2.category = 1
  | a :: t, i, h, q, hq, he => by
    unfold ok1 at h
    rw [Bool.and_eq_true] at h
    rcases List.mem_cons.mp hq with rfl | hq
    · have h1 := h.1
      rw [he, Nat.beq_refl] at h1
      exact Nat.eq_of_beq_eq_true h1
    · exact ok1_mem h.2 q hq he
theorem ok2_mem : ∀ {l : List (Nat × Value)} {i : Nat}, ok2 l i = true → ∀ q ∈ l, q.1 ≠ i + 1
  | a :: t, i, h, q, hq, he => by
    unfold ok2 at h
    rw [Bool.and_eq_true] at h
    rcases List.mem_cons.mp hq with rfl | hq
    · have h1 := h.1
      rw [he, Nat.beq_refl] at h1
      cases h1
    · exact ok2_mem h.2 q hq he
theorem lvs1 {ls : Array Slot} {nL : Nat} {l : List (Nat × Value)} {i : Nat} {v : Value} (h : lv_has ls nL ((i, v) :: l.filter (fun q => !(q.1 == i) && !(q.1 + 1 == i && q.2.category == 2)))) (ho : ok1 l i = true) : lv_has ls nL (upL l i v) := by
  refine ⟨h.1, h.2.1, fun q hq => h.2.2 q ?_⟩
  rcases upL_mem hq with rfl | ⟨h1, h2⟩
  · exact List.mem_cons_self
  · refine List.mem_cons_of_mem _ (List.mem_filter.mpr ⟨h1, ?_⟩)
    by_cases h3 : q.1 + 1 = i
    · have h4 := ok1_mem ho q h1 h3
      simp [h2, h4]
    · simp [h2, h3]
theorem lvs2 {ls : Array Slot} {nL : Nat} {l : List (Nat × Value)} {i : Nat} {v : Value} (h : lv_has ls nL ((i, v) :: l.filter (fun q => !(q.1 == i) && (!(q.1 == i + 1) && !(q.1 + 1 == i && q.2.category == 2))))) (ho : ok1 l i = true) (h2 : ok2 l i = true) : lv_has ls nL (upL l i v) := by
  refine ⟨h.1, h.2.1, fun q hq => h.2.2 q ?_⟩
  rcases upL_mem hq with rfl | ⟨h1, hne⟩
  · exact List.mem_cons_self
  · refine List.mem_cons_of_mem _ (List.mem_filter.mpr ⟨h1, ?_⟩)
    have h5 := ok2_mem h2 q h1
    by_cases h3 : q.1 + 1 = i
    · have h4 := ok1_mem ho q h1 h3
      simp [hne, h4, h5]
    · simp [hne, h3, h5]
theorem lvg {ls : Array Slot} {nL : Nat} {l : List (Nat × Value)} (h : lv_has ls nL l) {i : Nat} {v : Value} (hk : lkL l i = some v) : ls[i]? = some (.val v) := h.2.2 (i, v) (lkL_mem hk)
