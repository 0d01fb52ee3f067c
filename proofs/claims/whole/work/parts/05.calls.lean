/-! calls: the callee's cells are some places of the caller's; behind the call they hold what the contract says, in place -/
def put : va_W → List Nat → va_W → va_W
  | ws, i :: is, e :: es => put (ws.set i e) is es
  | ws, _, _ => ws
theorem put_nil (ws es : va_W) : put ws [] es = ws := by unfold put; rfl
theorem put_nil' (ws : va_W) (is : List Nat) : put ws is [] = ws := by cases is <;> (unfold put; rfl)
theorem put_cons (ws : va_W) (i : Nat) (is : List Nat) (e : Nat × va_E) (es : va_W) : put ws (i :: is) (e :: es) = put (ws.set i e) is es := by rw [put]
theorem put_len : ∀ (is : List Nat) (es ws : va_W), (put ws is es).length = ws.length
  | [], es, ws => by rw [put_nil]
  | i :: is, [], ws => by rw [put_nil']
  | i :: is, e :: es, ws => by rw [put_cons, put_len is es]; simp
/-- the addresses stay -/
theorem put_fst : ∀ (is : List Nat) (es ws : va_W), (∀ (j i : Nat) (e : Nat × va_E), is[j]? = some i → es[j]? = some e → ∃ e0, ws[i]? = some e0 ∧ e0.1 = e.1) → ∀ (k : Nat) (q : Nat × va_E), (put ws is es)[k]? = some q → ∃ q0, ws[k]? = some q0 ∧ q0.1 = q.1
  | [], es, ws, _, k, q, h => by rw [put_nil] at h; exact ⟨q, h, rfl⟩
  | i :: is, [], ws, _, k, q, h => by rw [put_nil'] at h; exact ⟨q, h, rfl⟩
  | i :: is, e :: es, ws, hh, k, q, h => by
    rw [put_cons] at h
    obtain ⟨e0, h0, h1⟩ := hh 0 i e rfl rfl
    have hi : i < ws.length := (List.getElem?_eq_some_iff.mp h0).1
    have step : ∀ (k : Nat) (q : Nat × va_E), (ws.set i e)[k]? = some q → ∃ q0, ws[k]? = some q0 ∧ q0.1 = q.1 := by
      intro k q hk
      by_cases hki : k = i
      · subst hki
        rw [List.getElem?_set_self hi] at hk
        cases hk
        exact ⟨e0, h0, h1⟩
      · rw [List.getElem?_set_ne (Ne.symm hki)] at hk
        exact ⟨q, hk, rfl⟩
    obtain ⟨q1, a1, a2⟩ := put_fst is es (ws.set i e) (fun j i' e' hj he => by
      obtain ⟨e0', b1, b2⟩ := hh (j + 1) i' e' hj he
      by_cases hii : i' = i
      · subst hii
        rw [h0] at b1
        cases b1
        exact ⟨e, List.getElem?_set_self hi, h1.symm.trans b2⟩
      · exact ⟨e0', by rw [List.getElem?_set_ne (Ne.symm hii)]; exact b1, b2⟩) k q h
    obtain ⟨q2, a3, a4⟩ := step k q1 a1
    exact ⟨q2, a3, a4.trans a2⟩
theorem put_get : ∀ (is : List Nat) (es ws : va_W) (k : Nat) (q : Nat × va_E), (put ws is es)[k]? = some q → (∃ j : Nat, is[j]? = some k ∧ es[j]? = some q) ∨ ((∀ j : Nat, is[j]? = some k → es.length ≤ j) ∧ ws[k]? = some q)
  | [], es, ws, k, q, h => by rw [put_nil] at h; exact Or.inr ⟨fun j hj => by simp at hj, h⟩
  | i :: is, [], ws, k, q, h => by rw [put_nil'] at h; exact Or.inr ⟨fun j hj => by simp, h⟩
  | i :: is, e :: es, ws, k, q, h => by
    rw [put_cons] at h
    rcases put_get is es (ws.set i e) k q h with ⟨j, h1, h2⟩ | ⟨h1, h2⟩
    · exact Or.inl ⟨j + 1, h1, h2⟩
    · by_cases hki : k = i
      · subst hki
        by_cases hk : k < ws.length
        · rw [List.getElem?_set_self hk] at h2
          exact Or.inl ⟨0, rfl, h2⟩
        · have : (ws.set k e)[k]? = none := List.getElem?_eq_none (by simp; omega)
          rw [this] at h2
          cases h2
      · rw [List.getElem?_set_ne (Ne.symm hki)] at h2
        refine Or.inr ⟨fun j hj => ?_, h2⟩
        cases j with
        | zero => exact absurd (Option.some.inj hj).symm hki
        | succ j =>
          have := h1 j hj
          simp only [List.length_cons]
          omega
theorem fst_at {w1 wc : va_W} (h : w1.map (·.1) = wc.map (·.1)) {j : Nat} {q : Nat × va_E} (hq : w1[j]? = some q) : ∃ q0, wc[j]? = some q0 ∧ q0.1 = q.1 := by
  have h1 : (w1.map (·.1))[j]? = some q.1 := by rw [List.getElem?_map, hq]; rfl
  rw [h, List.getElem?_map] at h1
  cases h2 : wc[j]? with
  | none => rw [h2] at h1; cases h1
  | some q0 => rw [h2] at h1; exact ⟨q0, rfl, by simpa using h1⟩
theorem isC_at {ws wc : va_W} {isC : List Nat} (hC : isC.map (fun i => ws[i]?) = wc.map some) {j i : Nat} (hj : isC[j]? = some i) : ∃ q, wc[j]? = some q ∧ ws[i]? = some q := by
  have h1 : (isC.map (fun i => ws[i]?))[j]? = some (ws[i]?) := by rw [List.getElem?_map, hj]; rfl
  rw [hC, List.getElem?_map] at h1
  cases h2 : wc[j]? with
  | none => rw [h2] at h1; cases h1
  | some q => rw [h2] at h1; exact ⟨q, rfl, (Option.some.inj h1).symm⟩
theorem isC_at' {ws wc : va_W} {isC : List Nat} (hC : isC.map (fun i => ws[i]?) = wc.map some) {j : Nat} {q : Nat × va_E} (hj : wc[j]? = some q) : ∃ i, isC[j]? = some i ∧ ws[i]? = some q := by
  have h1 : (wc.map some)[j]? = some (some q) := by rw [List.getElem?_map, hj]; rfl
  rw [← hC, List.getElem?_map] at h1
  cases h2 : isC[j]? with
  | none => rw [h2] at h1; cases h1
  | some i => rw [h2] at h1; exact ⟨i, rfl, Option.some.inj h1⟩
/-- behind a call -/
theorem put_join {A0 : Nat → Prop} {D : va_G} {cl : List vw_C} {ws wc w1 w2 : va_W} {H H1 : Heap} (hP : va_P D cl ws H) (hD : va_D A0 ws) (isC : List Nat) (hC : isC.map (fun i => ws[i]?) = wc.map some)
    (hk : ∀ q : Nat, q < H.size → ¬ va_A wc H.size q → H1[q]? = H[q]?) (hF : ∀ q, va_A wc H.size q → A0 q) (h1 : w1.map (·.1) = wc.map (·.1)) (hP1 : va_P D cl (w1 ++ w2) H1) (hD1 : va_D (va_A wc H.size) (w1 ++ w2)) : va_P D cl (put ws isC w1 ++ w2) H1 ∧ va_D A0 (put ws isC w1 ++ w2) := by
  have hlen : w1.length = wc.length := by have := congrArg List.length h1; simpa using this
  have hlenC : isC.length = wc.length := by have := congrArg List.length hC; simpa using this
  have hfst : ∀ (k : Nat) (q : Nat × va_E), (put ws isC w1)[k]? = some q → ∃ q0, ws[k]? = some q0 ∧ q0.1 = q.1 := put_fst isC w1 ws (fun j i e hj he => by
    obtain ⟨q0, a1, a2⟩ := fst_at h1 he
    obtain ⟨q1, b1, b2⟩ := isC_at hC hj
    rw [a1] at b1
    cases b1
    exact ⟨q0, b2, a2⟩)
  have hPp : va_P D cl (put ws isC w1) H1 := by
    intro k q hq
    rcases put_get isC w1 ws k q hq with ⟨j, a1, a2⟩ | ⟨a1, a2⟩
    · exact hP1 j q (by rw [List.getElem?_append_left (List.getElem?_eq_some_iff.mp a2).1]; exact a2)
    · refine (hP k q a2).kept (hk q.1 (hP k q a2).lt (fun ha => ?_))
      rcases ha with ⟨j, e, hj⟩ | hj
      · obtain ⟨i, b1, b2⟩ := isC_at' hC hj
        have hki := hD.1 k i q (q.1, e) a2 b2 rfl
        subst hki
        have := a1 j b1
        have hl := (List.getElem?_eq_some_iff.mp hj).1
        omega
      · have := (hP k q a2).lt
        omega
  have hD2 : va_D (va_A wc H.size) w2 := ⟨fun i j p q hi hj hpq => by
    have := hD1.1 (w1.length + i) (w1.length + j) p q (by rw [List.getElem?_append_right (by omega)]; simpa using hi) (by rw [List.getElem?_append_right (by omega)]; simpa using hj) hpq
    omega, fun k q hq => hD1.2 (w1.length + k) q (by rw [List.getElem?_append_right (by omega)]; simpa using hq)⟩
  have hDp : va_D A0 (put ws isC w1) := ⟨fun i j p q hi hj hpq => by
    obtain ⟨p0, a1, a2⟩ := hfst i p hi
    obtain ⟨q0, b1, b2⟩ := hfst j q hj
    exact hD.1 i j p0 q0 a1 b1 (a2.trans (hpq.trans b2.symm)), fun k q hq => by
    obtain ⟨q0, a1, a2⟩ := hfst k q hq
    rw [← a2]
    exact hD.2 k q0 a1⟩
  refine ⟨va_P.app hPp (fun k q hq => hP1 (w1.length + k) q (by rw [List.getElem?_append_right (by omega)]; simpa using hq)), va_D.app hDp (hD2.weaken (fun k q _ h => hF q.1 h)) (fun i j p q hi hj hpq => ?_)⟩
  obtain ⟨p0, a1, a2⟩ := hfst i p hi
  have hplt := (hP i p0 a1).lt
  have hqn : H.size ≤ q.1 := by
    rcases hD2.2 j q hj with ⟨k, e, hk9⟩ | hk9
    · have e9 : (wc.map (·.1))[k]? = some q.1 := by rw [List.getElem?_map, hk9]; rfl
      rw [← h1, List.getElem?_map] at e9
      cases h3 : w1[k]? with
      | none => rw [h3] at e9; cases e9
      | some q3 =>
        rw [h3] at e9
        have hk1 : k < w1.length := (List.getElem?_eq_some_iff.mp h3).1
        have := hD1.1 k (w1.length + j) q3 q (by rw [List.getElem?_append_left hk1]; exact h3) (by rw [List.getElem?_append_right (by omega)]; simpa using hj) (by simpa using e9)
        omega
    · exact hk9
  rw [← hpq, ← a2] at hqn
  omega
/-! what the tables say of a method, and of a call's place -/
def MF (y : MethodName) (bytes : ByteArray) (maxL : Nat) (ret : Option FieldType) (na : Nat) : Prop :=
  Cond.code y bytes maxL ret ∈ WS ∧ Cond.initialized y.cls ∈ WS ∧ (y.cls ≠ "java/lang/invoke/MethodHandle" ∧ y.cls ≠ "java/lang/invoke/VarHandle" ∧ (parseMethodDescriptor y.desc).map (fun d => d.parameters.length) = some na)
def ML (own : String) (idx : Nat) (y : MethodName) : Prop := Cond.methodLink own idx y ∈ WS ∨ ∃ host, Cond.methodLinkNest own idx y host ∈ tables_1
theorem ws_good {y : MethodName} {bytes : ByteArray} {maxL : Nat} {ret : Option FieldType} (h : Cond.code y bytes maxL ret ∈ WS) : GoodIn WS (Cond.code y bytes maxL ret :: WS) :=
  WS_good (fun w hw => (List.mem_cons.mp hw).elim (fun e => e ▸ h) id) (fun _ h => h)
section Calls9
variable {l : Launch} {G : wG} {own : String} {cc : ByteArray} {nL : Nat} {nm : String} {R : Room} {P : PT} {k n pc : Nat} {lv : List (Nat × Value)} {st : List Value} {ws : va_W}
/-- from a run of the callee to the caller's next pc -/
theorem run_join {p : Program} {e : Env} {s : State} {m : MethodId} {args : Array Value} {below : List Frame} {meth : Method} {c : Code} {A : Nat → Prop} {Q : State → Prop} {H : Heap} {locs : List Loc} {ls : Array Slot} {wc : va_W} {mc ms : Nat} {st0 : List Value} {Qr : Option Value → va_W → va_W → Prop} {a : Array Value}
    (hr : va_Run p l e R s m args below meth c H locs k n mc ms (F0 m pc ls st0) st (conQc G wc H.size Qr a) (va_A wc H.size)) (hK : KU G s) (hP : va_P G.1 vwCl ws H) (hD : va_D A ws) (hS : va_S A s.heap H locs) (hA : ∀ q : Nat, s.heap.size ≤ q → A q) (isC : List Nat) (hC : isC.map (fun i => ws[i]?) = wc.map some)
    (kk : ∀ (r : Option Value) (w1 w2 : va_W), Qr r w1 w2 → ∀ (H1 : Heap) (locs1 : List Loc), va_P G.1 vwCl (put ws isC w1 ++ w2) H1 → va_D A (put ws isC w1 ++ w2) → va_S A s.heap H1 locs1 → W p l e R s m args below meth c H1 locs1 (k + mc) (n + ms) Q (F0 m (pc + 3) ls (r.toList ++ st))) :
    W p l e R s m args below meth c H locs k n Q (F0 m pc ls st0) := by
  intro T hT X
  obtain ⟨v, st₀, t, T', L, h0, X', hL, e1, e2, ⟨r, w1, w2, hv, hq, h1, hP1, hD1, hz, hk⟩, hst⟩ := hr T hT X
  cases hv
  rw [h0] at hz hk
  have hF := va_free (wc := wc) hD hS hA isC hC
  obtain ⟨j1, j2⟩ := put_join hP hD isC hC hk hF h1 hP1 hD1
  rw [← e1] at j1 hz hk
  obtain ⟨t2, a1, b1⟩ := kk v w1 w2 hq T'.heap (locs ++ L) j1 j2 ⟨Nat.le_trans hS.1 hz, fun q g1 g2 => by rw [hk q (Nat.lt_of_lt_of_le g1 hS.1) (fun z => g2 (hF q z))]; exact hS.2.1 q g1 g2, fun q hq => by
      rcases List.mem_append.mp hq with h | h
      · exact hS.2.2 q h
      · exact hF _ (hL q h)⟩ T' rfl X'
  exact ⟨t2, hst t2 a1, b1⟩
theorem st_callV (C : Cx l G own cc nL nm R P) {y : MethodName} {bytes : ByteArray} {maxL : Nat} {ret : Option FieldType} {na d mc ms idx b ci : Nat} {fs : List Value} {As st0 : List Value} {wc : va_W} {Qr : Option Value → va_W → va_W → Prop} {T : u_T} {N : Nat}
    (hc : Con l G y bytes maxL ret d mc ms (.ref b :: As) wc Qr) (hy : MF y bytes maxL ret na) (hi : Cond.instanceMethod y ∈ WS ∧ Cond.selects y.cls y y ∈ WS) (hl : ML own idx y) (hd : decode cc pc = .ok (.invokevirtual idx, 3)) (isC : List Nat) (hC : isC.map (fun i => ws[i]?) = wc.map some) (hnd9 : va_nd isC = true) (hn : As.length = na) (hst : st0 = As.reverse ++ .ref b :: st) (hW : (st.map fun v => v.category).sum ≤ 8)
    (hb : wc[0]? = some (b, .inr (ci, fs))) (hcl : vwCl[ci]? = some (y.cls, T, N)) (hR : d + 1 ≤ R.frames ∧ 8 + (maxL + 11) + 38 * d ≤ R.locals) (hroom : k + mc ≤ R.cells ∧ n + ms ≤ R.slots)
    (kk : ∀ (r : Option Value) (w1 w2 : va_W), Qr r w1 w2 → P (k + mc) (n + ms) (pc + 3) lv (r.toList ++ st) (put ws isC w1 ++ w2)) : P k n pc lv st0 ws := by
  obtain ⟨p, e, s, m, args, below, meth, c, A, Q, ⟨hx, hb9, hml, hnm, hown, hts, hK, hA⟩, rfl⟩ := C
  intro H locs ls hP hD hS hl9
  obtain ⟨y1, y2, y3⟩ := hy
  have hPc : va_P G.1 vwCl wc H := fun j q hj => by
    obtain ⟨i, -, h2⟩ := isC_at' hC hj
    exact hP i q h2
  have hnd : va_D (fun _ => True) wc := (hD.sub isC hnd9 hC).weaken (fun _ _ _ _ => trivial)
  have hpre : PreV s H y.cls b (conPc G (.ref b :: As) wc H.size) As := ⟨conPc_blind _ _ _ _, va_recv hK.1 hPc hcl hb, fun U hU hW9 => ⟨rfl, by rw [hU], by rw [hU]; exact hPc, KU.warm hW9 hK, hnd⟩⟩
  subst hst
  rcases hl with h1 | ⟨host, h1⟩
  · have cw : CallW R s args own y.cls idx y bytes maxL ret (.code y bytes maxL ret :: WS) (rmD d mc ms) mc ms na :=
      ⟨callB_of na hts (ws_good y1) rfl rfl rfl (hts _ y2) (hts _ h1) y3 hR, hts _ hi.1, hts _ hi.2⟩
    exact run_join (va_runV (As := As) (rest := st) ⟨hx, hb9, hml, hown, hts⟩ (hc H.size) cw hpre rfl hn hl9.1 rfl (lv_room hW) hd hroom) hK hP hD hS hA isC hC (fun r w1 w2 hq H1 locs1 hP1 hD1 hS1 => kk r w1 w2 hq H1 locs1 ls hP1 hD1 hS1 hl9)
  · have cw := va_cnB (R := R) (index := idx) (maxL := maxL) (bytes := bytes) (ret := ret) (rm := rmD d mc ms) (mc := mc) (ms := ms) na hts (ws_good y1) rfl rfl rfl (hK.2 _ h1 rfl) (hts _ y2) y3 hR
    exact run_join (va_runVN (As := As) (rest := st) ⟨hx, hb9, hml, hown, hts⟩ (hc H.size) ⟨cw, hts _ hi.1, hts _ hi.2⟩ hpre rfl hn hl9.1 rfl (lv_room hW) hd hroom) hK hP hD hS hA isC hC (fun r w1 w2 hq H1 locs1 hP1 hD1 hS1 => kk r w1 w2 hq H1 locs1 ls hP1 hD1 hS1 hl9)
theorem st_callS (C : Cx l G own cc nL nm R P) {y : MethodName} {bytes : ByteArray} {maxL : Nat} {ret : Option FieldType} {na d mc ms idx : Nat} {As st0 : List Value} {wc : va_W} {Qr : Option Value → va_W → va_W → Prop}
    (hc : Con l G y bytes maxL ret d mc ms As wc Qr) (hy : MF y bytes maxL ret na) (hi : Cond.static y ∈ WS) (hl : ML own idx y) (hd : decode cc pc = .ok (.invokestatic idx, 3)) (isC : List Nat) (hC : isC.map (fun i => ws[i]?) = wc.map some) (hnd9 : va_nd isC = true) (hn : As.length = na) (hst : st0 = As.reverse ++ st) (hW : (st.map fun v => v.category).sum ≤ 8)
    (hR : d + 1 ≤ R.frames ∧ 8 + (maxL + 11) + 38 * d ≤ R.locals) (hroom : k + mc ≤ R.cells ∧ n + ms ≤ R.slots)
    (kk : ∀ (r : Option Value) (w1 w2 : va_W), Qr r w1 w2 → P (k + mc) (n + ms) (pc + 3) lv (r.toList ++ st) (put ws isC w1 ++ w2)) : P k n pc lv st0 ws := by
  obtain ⟨p, e, s, m, args, below, meth, c, A, Q, ⟨hx, hb9, hml, hnm, hown, hts, hK, hA⟩, rfl⟩ := C
  intro H locs ls hP hD hS hl9
  obtain ⟨y1, y2, y3⟩ := hy
  have hPc : va_P G.1 vwCl wc H := fun j q hj => by
    obtain ⟨i, -, h2⟩ := isC_at' hC hj
    exact hP i q h2
  have hnd : va_D (fun _ => True) wc := (hD.sub isC hnd9 hC).weaken (fun _ _ _ _ => trivial)
  have hpre : PreS s H (conPc G As wc H.size) As := ⟨conPc_blind _ _ _ _, fun U hU hW9 => ⟨rfl, by rw [hU], by rw [hU]; exact hPc, KU.warm hW9 hK, hnd⟩⟩
  subst hst
  rcases hl with h1 | ⟨host, h1⟩
  · have cw : CallB R s args own idx y bytes maxL ret (.code y bytes maxL ret :: WS) (rmD d mc ms) mc ms na ∧ (Cond.static y).before args s = true :=
      ⟨callB_of na hts (ws_good y1) rfl rfl rfl (hts _ y2) (hts _ h1) y3 hR, hts _ hi⟩
    exact run_join (va_runS (As := As) (rest := st) ⟨hx, hb9, hml, hown, hts⟩ (hc H.size) cw hpre rfl hn hl9.1 rfl (lv_room hW) hd hroom) hK hP hD hS hA isC hC (fun r w1 w2 hq H1 locs1 hP1 hD1 hS1 => kk r w1 w2 hq H1 locs1 ls hP1 hD1 hS1 hl9)
  · have cw := va_cnB (R := R) (index := idx) (maxL := maxL) (bytes := bytes) (ret := ret) (rm := rmD d mc ms) (mc := mc) (ms := ms) na hts (ws_good y1) rfl rfl rfl (hK.2 _ h1 rfl) (hts _ y2) y3 hR
    exact run_join (va_runSN (As := As) (rest := st) ⟨hx, hb9, hml, hown, hts⟩ (hc H.size) ⟨cw, hts _ hi, trivial⟩ hpre rfl hn hl9.1 rfl (lv_room hW) hd hroom) hK hP hD hS hA isC hC (fun r w1 w2 hq H1 locs1 hP1 hD1 hS1 => kk r w1 w2 hq H1 locs1 ls hP1 hD1 hS1 hl9)
theorem st_callI (C : Cx l G own cc nL nm R P) {y : MethodName} {bytes : ByteArray} {maxL : Nat} {na d mc ms idx b : Nat} {As st0 : List Value} {wc : va_W} {Qr : Option Value → va_W → va_W → Prop}
    (hc : Con l G y bytes maxL none d mc ms (.ref b :: As) wc Qr) (hy : MF y bytes maxL none na) (hi : y.name = "<init>" ∧ Cond.instanceMethod y ∈ WS) (hl : ML own idx y) (hd : decode cc pc = .ok (.invokespecial idx, 3)) (isC : List Nat) (hC : isC.map (fun i => ws[i]?) = wc.map some) (hnd9 : va_nd isC = true) (hn : As.length = na) (hst : st0 = As.reverse ++ .ref b :: st) (hW : (st.map fun v => v.category).sum ≤ 8)
    (hR : d + 1 ≤ R.frames ∧ 8 + (maxL + 11) + 38 * d ≤ R.locals) (hroom : k + mc ≤ R.cells ∧ n + ms ≤ R.slots)
    (kk : ∀ (r : Option Value) (w1 w2 : va_W), Qr r w1 w2 → P (k + mc) (n + ms) (pc + 3) lv (r.toList ++ st) (put ws isC w1 ++ w2)) : P k n pc lv st0 ws := by
  obtain ⟨p, e, s, m, args, below, meth, c, A, Q, ⟨hx, hb9, hml, hnm, hown, hts, hK, hA⟩, rfl⟩ := C
  intro H locs ls hP hD hS hl9
  obtain ⟨y1, y2, y3⟩ := hy
  have hPc : va_P G.1 vwCl wc H := fun j q hj => by
    obtain ⟨i, -, h2⟩ := isC_at' hC hj
    exact hP i q h2
  have hnd : va_D (fun _ => True) wc := (hD.sub isC hnd9 hC).weaken (fun _ _ _ _ => trivial)
  have hpre : PreS s H (conPc G (.ref b :: As) wc H.size) (.ref b :: As) := ⟨conPc_blind _ _ _ _, fun U hU hW9 => ⟨rfl, by rw [hU], by rw [hU]; exact hPc, KU.warm hW9 hK, hnd⟩⟩
  subst hst
  rcases hl with h1 | ⟨host, h1⟩
  · have cw : CallB R s args own idx y bytes maxL none (.code y bytes maxL none :: WS) (rmD d mc ms) mc ms na ∧ y.name = "<init>" ∧ (Cond.instanceMethod y).before args s = true :=
      ⟨callB_of na hts (ws_good y1) rfl rfl rfl (hts _ y2) (hts _ h1) y3 hR, hi.1, hts _ hi.2⟩
    exact run_join (va_runI (As := As) (rest := st) ⟨hx, hb9, hml, hown, hts⟩ (hc H.size) cw hpre rfl hn hl9.1 rfl (lv_room hW) hd hroom) hK hP hD hS hA isC hC (fun r w1 w2 hq H1 locs1 hP1 hD1 hS1 => kk r w1 w2 hq H1 locs1 ls hP1 hD1 hS1 hl9)
  · have cw := va_cnB (R := R) (index := idx) (maxL := maxL) (bytes := bytes) (ret := none) (rm := rmD d mc ms) (mc := mc) (ms := ms) na hts (ws_good y1) rfl rfl rfl (hK.2 _ h1 rfl) (hts _ y2) y3 hR
    exact run_join (va_runIN (As := As) (rest := st) ⟨hx, hb9, hml, hown, hts⟩ (hc H.size) ⟨cw, hi.1, hts _ hi.2⟩ hpre rfl hn hl9.1 rfl (lv_room hW) hd hroom) hK hP hD hS hA isC hC (fun r w1 w2 hq H1 locs1 hP1 hD1 hS1 => kk r w1 w2 hq H1 locs1 ls hP1 hD1 hS1 hl9)
/-! calls of methods that make no cell -/
def Con0 (l : Launch) (G : wG) (y : MethodName) (bytes : ByteArray) (maxL : Nat) (ret : Option FieldType) (d : Nat) (av : List Value) (wc : va_W) (Q0 : Option Value → va_W → Prop) : Prop := Con l G y bytes maxL ret d 0 0 av wc (fun r w1 w2 => w2 = [] ∧ Q0 r w1)
theorem st_cV (C : Cx l G own cc nL nm R P) {y : MethodName} {bytes : ByteArray} {maxL : Nat} {ret : Option FieldType} {na d idx b ci : Nat} {fs : List Value} {As st0 : List Value} {wc : va_W} {Q0 : Option Value → va_W → Prop} {T : u_T} {N : Nat}
    (hc : Con0 l G y bytes maxL ret d (.ref b :: As) wc Q0) (hy : MF y bytes maxL ret na) (hi : Cond.instanceMethod y ∈ WS ∧ Cond.selects y.cls y y ∈ WS) (hl : ML own idx y) (hd : decode cc pc = .ok (.invokevirtual idx, 3)) (isC : List Nat) (hC : isC.map (fun i => ws[i]?) = wc.map some) (hnd9 : va_nd isC = true) (hn : As.length = na) (hst : st0 = As.reverse ++ .ref b :: st) (hW : (st.map fun v => v.category).sum ≤ 8)
    (hb : wc[0]? = some (b, .inr (ci, fs))) (hcl : vwCl[ci]? = some (y.cls, T, N)) (hR : d + 1 ≤ R.frames ∧ 8 + (maxL + 11) + 38 * d ≤ R.locals) (hroom : k ≤ R.cells ∧ n ≤ R.slots)
    (kk : ∀ (r : Option Value) (w1 : va_W), Q0 r w1 → P k n (pc + 3) lv (r.toList ++ st) (put ws isC w1)) : P k n pc lv st0 ws :=
  st_callV C hc hy hi hl hd isC hC hnd9 hn hst hW hb hcl hR hroom (fun r w1 w2 h => by rw [h.1, List.append_nil]; exact kk r w1 h.2)
theorem st_cS (C : Cx l G own cc nL nm R P) {y : MethodName} {bytes : ByteArray} {maxL : Nat} {ret : Option FieldType} {na d idx : Nat} {As st0 : List Value} {wc : va_W} {Q0 : Option Value → va_W → Prop}
    (hc : Con0 l G y bytes maxL ret d As wc Q0) (hy : MF y bytes maxL ret na) (hi : Cond.static y ∈ WS) (hl : ML own idx y) (hd : decode cc pc = .ok (.invokestatic idx, 3)) (isC : List Nat) (hC : isC.map (fun i => ws[i]?) = wc.map some) (hnd9 : va_nd isC = true) (hn : As.length = na) (hst : st0 = As.reverse ++ st) (hW : (st.map fun v => v.category).sum ≤ 8)
    (hR : d + 1 ≤ R.frames ∧ 8 + (maxL + 11) + 38 * d ≤ R.locals) (hroom : k ≤ R.cells ∧ n ≤ R.slots)
    (kk : ∀ (r : Option Value) (w1 : va_W), Q0 r w1 → P k n (pc + 3) lv (r.toList ++ st) (put ws isC w1)) : P k n pc lv st0 ws :=
  st_callS C hc hy hi hl hd isC hC hnd9 hn hst hW hR hroom (fun r w1 w2 h => by rw [h.1, List.append_nil]; exact kk r w1 h.2)
end Calls9
/-! a method's own contract out of its walk -/
def isRet (ret : Option FieldType) (ins : Instr) (st : List Value) (r : Option Value) : Prop :=
  (ret = none ∧ ins = .return_ ∧ st = [] ∧ r = none) ∨ (∃ v, ret = some .int ∧ ins = .ireturn ∧ st = [.int v] ∧ r = some (.int v)) ∨ (∃ v, ret = some .boolean ∧ (v = 0 ∨ v = 1) ∧ ins = .ireturn ∧ st = [.int v] ∧ r = some (.int v)) ∨
  (∃ v, ret = some .long ∧ ins = .lreturn ∧ st = [.long v] ∧ r = some (.long v)) ∨ (∃ v, ret = some .double ∧ ins = .dreturn ∧ st = [.double v] ∧ r = some (.double v)) ∨ (∃ v C, ret = some (.object C) ∧ ins = .areturn ∧ st = [.ref v] ∧ r = some (.ref v))
def Rt (cc : ByteArray) (ret : Option FieldType) (mc ms : Nat) (wc : va_W) (Qr : Option Value → va_W → va_W → Prop) (P : PT) : Prop :=
  ∀ (k n pc : Nat) (lv : List (Nat × Value)) (st : List Value) (ws : va_W) (ins : Instr) (r : Option Value), k ≤ mc → n ≤ ms → decode cc pc = .ok (ins, 1) → isRet ret ins st r → (ws.take wc.length).map (·.1) = wc.map (·.1) → Qr r (ws.take wc.length) (ws.drop wc.length) → P k n pc lv st ws
theorem Con.mk {l : Launch} {G : wG} {y : MethodName} {bytes : ByteArray} {maxL : Nat} {ret : Option FieldType} {d mc ms : Nat} {av : List Value} {wc : va_W} {Qr : Option Value → va_W → va_W → Prop} (hpl : plainName y.cls = true) (hav : (lg_sl av).length ≤ maxL)
    (h : ∀ P : PT, Cx l G y.cls bytes maxL y.name (rmD d mc ms) P → Rt bytes ret mc ms wc Qr P → P 0 0 0 (lv_args 0 av) [] wc) : Con l G y bytes maxL ret d mc ms av wc Qr := by
  intro sz
  refine Met.ofW (cc := bytes) (maxL := maxL) (ret := ret) hpl rfl ?_
  intro p e s m args below meth c s₁ B hml hv
  obtain ⟨rfl, hsz, hP, hK, hD0⟩ := hv
  have hx := B.exec
  have hb := B.bytes
  have hr := B.returns
  have hts0 := atoms_spec (ws := Cond.code y bytes maxL ret :: WS) B.pre
  have hts : ∀ w ∈ WS, w.before av.toArray s = true := fun w hw => hts0 w (List.mem_cons_of_mem _ hw)
  have hown : s.vm.findClass y.cls = some m.cls := findClass_of_methodNamed B.named
  have hlocks := B.notSynchronized
  have hin : meth.name = y.name := (name_of_methodNamed B.named B.method).1
  subst hsz
  have hD := hD0.self (sz := s.heap.size)
  have hA : ∀ q : Nat, s.heap.size ≤ q → va_A wc s.heap.size q := fun q h => Or.inr h
  have hS : va_S (va_A wc s.heap.size) s.heap s.heap [] := va_S.rf
  have hl := lv_entry av (n := maxL) hav
  rw [lg_entry_eq]
  refine h _ ⟨p, e, s, m, av.toArray, below, meth, c, va_A wc s.heap.size, MQ below (conQc G wc s.heap.size Qr) av.toArray s mc ms (va_A wc s.heap.size), ⟨hx, hb, hml, hin, hown, hts, hK, hA⟩, rfl⟩ ?_ s.heap [] _ hP hD hS hl
  intro k n pc lv st ws ins r hk hn hd hret hfst hq H locs ls hP1 hD1 hS1 hl1
  refine W.widen hk hn ?_
  have hend : ∀ t : State, t.heap = H → s.WarmedH t.vm → conQc G wc s.heap.size Qr av.toArray s (.returned r) t := fun t ht hW => ⟨r, ws.take wc.length, ws.drop wc.length, rfl, hq, hfst, by rw [List.take_append_drop, ht]; exact hP1, by rw [List.take_append_drop]; exact hD1, hS1.F ht⟩
  rcases hret with ⟨h1, rfl, rfl, rfl⟩ | ⟨v, h1, rfl, rfl, rfl⟩ | ⟨v, h1, hv, rfl, rfl, rfl⟩ | ⟨v, h1, rfl, rfl, rfl⟩ | ⟨v, h1, rfl, rfl, rfl⟩ | ⟨v, Cn, h1, rfl, rfl, rfl⟩
  · exact W.vret hx hb (hr.trans h1) hend hS1.2.2 hd
  · exact W.iret hx hb (hr.trans h1) hend hS1.2.2 hd
  · exact W.zret hx hb (hr.trans h1) (by rcases hv with rfl | rfl <;> rfl) hend hS1.2.2 hd
  · exact W.lret hx hb (hr.trans h1) hend hS1.2.2 hd
  · exact W.dret hx hb (hr.trans h1) hend hS1.2.2 hd
  · exact W.aret hx hb (hr.trans h1) (Or.inl ⟨_, rfl⟩) (Or.inr ⟨_, rfl⟩) hend hS1.2.2 hd
