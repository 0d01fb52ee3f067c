/-! rows of makers and catchers -/
section Rows2
variable {l : Launch} {G : wG} {own : String} {cc : ByteArray} {nL : Nat} {nm : String} {R : Room} {Ex : Array Value → State → (Nat → Prop) → Code → Prop} {P : PT} {k n pc : Nat} {lv : List (Nat × Value)} {st : List Value} {ws : va_W}
def OI (own : String) (idx : Nat) : Prop := Cond.methodLink own idx Lib.objectInit ∈ WS ∧ Cond.instanceMethod Lib.objectInit ∈ WS ∧ Cond.code Lib.objectInit ⟨#[0xb1]⟩ 1 none ∈ WS
theorem st_oi (C : Cx l G own cc nL nm R P) {idx a : Nat} (ho : OI own idx) (hd : decode cc pc = .ok (.invokespecial idx, 3)) (hW : (st.map fun v => v.category).sum ≤ 8) (hR : 1 ≤ R.frames ∧ 20 ≤ R.locals) (kk : P k n (pc + 3) lv st ws) : P k n pc lv (.ref a :: st) ws := by
  obtain ⟨p, e, s, m, args, below, meth, c, A, Q, ⟨hx, hb, hml, hnm, hown, hts, hK, hA⟩, rfl⟩ := C
  intro H locs ls hP hD hS hl
  refine W.objInit hx hb hown (hts _ ho.1) (hts _ ho.2.1) (hts _ ho.2.2) (g := F0 m pc ls (.ref a :: st)) rfl (by rw [hml]; exact hl.1) rfl hd hR.1 ?_ (kk H locs ls hP hD hS hl)
  show 0 + _ + 12 ≤ _
  omega
def NW (own : String) (idx ci : Nat) (fs : List Value) : Prop := ∃ (Cn : String) (T : u_T) (N : Nat) (ty : Nat → FieldType), vwCl[ci]? = some (Cn, T, N) ∧ fs.length = N ∧ (∀ w ∈ u_ws Cn T N, w ∈ WS) ∧ (∀ k, k < N → parseFieldDescriptor (T k).2.2.1 = some (ty k)) ∧ (∀ j, j < N → defaultValue (ty j) = vp_V fs j) ∧ Cond.classLink own idx Cn ∈ WS ∧ Cond.instantiable Cn N ∈ WS ∧ Cond.initialized Cn ∈ WS
theorem st_new (C : Cx l G own cc nL nm R P) {idx ci : Nat} {fs : List Value} (hN : NW own idx ci fs) (hd : decode cc pc = .ok (.new idx, 3)) (hroom : k + 1 ≤ R.cells ∧ n + fs.length ≤ R.slots) (kk : ∀ q : Nat, P (k + 1) (n + fs.length) (pc + 3) lv (.ref q :: st) (ws ++ [(q, ob ci fs)])) : P k n pc lv st ws := by
  obtain ⟨p, e, s, m, args, below, meth, c, A, Q, ⟨hx, hb, hml, hnm, hown, hts, hK, hA⟩, rfl⟩ := C
  obtain ⟨Cn, T, N, ty, h1, rfl, h3, h4, h5, h6, h7, h8⟩ := hN
  intro H locs ls hP hD hS hl
  exact va_new (ci := ci) (fs := fs) hx hb hts h3 ty h4 hown (hts _ h6) (hts _ h7) (hts _ h8) hK.1 hP hD hS hA h1 h5 hroom.1 hroom.2 hd (fun q H1 hP1 hD1 hS1 => kk q H1 locs ls hP1 hD1 hS1 hl)
theorem clsI {U : State} (hK : va_K G.1 vwCl (wTys G) U) {tys : List (ClassId × FieldType)} {cA : ClassId} (h : va_K G.1 vwCl (tys ++ [(cA, .int)]) U) : cA = G.2.1 := by
  have h1 : va_RA U G.2.1 .int := (hK.2 0 _ rfl).2
  have h2 : va_RA U cA .int := (h.2 tys.length _ (by rw [List.getElem?_append_right (Nat.le_refl _), Nat.sub_self]; rfl)).2
  exact Option.some.inj ((show U.vm.findClass _ = some cA from h2).symm.trans (show U.vm.findClass _ = some G.2.1 from h1))
theorem clsJ {U : State} (hK : va_K G.1 vwCl (wTys G) U) {tys : List (ClassId × FieldType)} {cA : ClassId} (h : va_K G.1 vwCl (tys ++ [(cA, .long)]) U) : cA = G.2.2.1 := by
  have h1 : va_RA U G.2.2.1 .long := (hK.2 1 _ rfl).2
  have h2 : va_RA U cA .long := (h.2 tys.length _ (by rw [List.getElem?_append_right (Nat.le_refl _), Nat.sub_self]; rfl)).2
  exact Option.some.inj ((show U.vm.findClass _ = some cA from h2).symm.trans (show U.vm.findClass _ = some G.2.2.1 from h1))
theorem clsQ {U : State} (hK : va_K G.1 vwCl (wTys G) U) {tys : List (ClassId × FieldType)} {cA : ClassId} (h : va_K G.1 vwCl (tys ++ [(cA, .object "FoldedKeys$Corridor")]) U) : cA = G.2.2.2 := by
  have h1 : va_RA U G.2.2.2 (.object "FoldedKeys$Corridor") := (hK.2 2 _ rfl).2
  have h2 : va_RA U cA (.object "FoldedKeys$Corridor") := (h.2 tys.length _ (by rw [List.getElem?_append_right (Nat.le_refl _), Nat.sub_self]; rfl)).2
  obtain ⟨-, -, -, -, -, e1⟩ := h1
  obtain ⟨-, -, -, -, -, e2⟩ := h2
  exact Option.some.inj (e2.symm.trans e1)
theorem st_newI (C : Cx l G own cc nL nm R P) (hw : Cond.arrayClass .int ∈ WS) {N : Nat} {x : Int32} (hx9 : x = nI N) (hN : N < 100000) (hd : decode cc pc = .ok (.newarray .int, 2)) (hroom : k + 1 ≤ R.cells ∧ n + N ≤ R.slots) (kk : ∀ q : Nat, P (k + 1) (n + N) (pc + 2) lv (.ref q :: st) (ws ++ [(q, aI G N (fun _ => 0))])) : P k n pc lv (.int x :: st) ws := by
  obtain ⟨p, e, s, m, args, below, meth, c, A, Q, ⟨hx, hb, hml, hnm, hown, hts, hK, hA⟩, rfl⟩ := C
  intro H locs ls hP hD hS hl
  subst hx9
  refine va_newa (atype := .int) (ty := .int) (N' := N) (a0 := (N, .inl (fun _ => 0))) hx hb (hts _ hw) rfl hK.1 hP hD hS hA (fun cA => rfl) (nI_pos (by omega)) (nI_clamp (by omega)) (by show N * 4 ≤ _; omega) hroom.1 hroom.2 hd (fun q cA H1 hK1 hP1 hD1 hS1 => ?_)
  have e := clsI hK.1 hK1
  subst e
  exact kk q H1 locs ls hP1 hD1 hS1 hl
theorem st_newJ (C : Cx l G own cc nL nm R P) (hw : Cond.arrayClass .long ∈ WS) {N : Nat} {x : Int32} (hx9 : x = nI N) (hN : N < 100000) (hd : decode cc pc = .ok (.newarray .long, 2)) (hroom : k + 1 ≤ R.cells ∧ n + N ≤ R.slots) (kk : ∀ q : Nat, P (k + 1) (n + N) (pc + 2) lv (.ref q :: st) (ws ++ [(q, aJ G N (fun _ => 0))])) : P k n pc lv (.int x :: st) ws := by
  obtain ⟨p, e, s, m, args, below, meth, c, A, Q, ⟨hx, hb, hml, hnm, hown, hts, hK, hA⟩, rfl⟩ := C
  intro H locs ls hP hD hS hl
  subst hx9
  refine va_newa (atype := .long) (ty := .long) (N' := N) (a0 := (N, .inr (.inl (fun _ => 0)))) hx hb (hts _ hw) rfl hK.1 hP hD hS hA (fun cA => rfl) (nI_pos (by omega)) (nI_clamp (by omega)) (by show N * 8 ≤ _; omega) hroom.1 hroom.2 hd (fun q cA H1 hK1 hP1 hD1 hS1 => ?_)
  have e := clsJ hK.1 hK1
  subst e
  exact kk q H1 locs ls hP1 hD1 hS1 hl
theorem st_newQ (C : Cv l G own cc nL nm R Ex P) {idx : Nat} (hw : Cond.classLink own idx "FoldedKeys$Corridor" ∈ WS) {N : Nat} {x : Int32} (hx9 : x = nI N) (hN : N < 100000) (hd : decode cc pc = .ok (.anewarray idx, 3)) (hroom : k + 1 ≤ R.cells ∧ n + N ≤ R.slots) (kk : ∀ q : Nat, P (k + 1) (n + N) (pc + 3) lv (.ref q :: st) (ws ++ [(q, aQ G N (fun _ => none))])) : P k n pc lv (.int x :: st) ws := by
  obtain ⟨p, e, s, m, args, below, meth, c, A, Q, ⟨hx, hb, hml, hnm, hown, hts, hK, hA⟩, ⟨hV, -⟩, rfl⟩ := C
  intro H locs ls hP hD hS hl
  subst hx9
  refine va_newq (N' := N) hx hb hown (hts _ hw) hV.2.2.2.1 hK.1 hP hD hS hA (nI_pos (by omega)) (nI_clamp (by omega)) (by omega) hroom.1 hroom.2 hd (fun q cA H1 hK1 hP1 hD1 hS1 => ?_)
  have e := clsQ hK.1 hK1
  subst e
  exact kk q H1 locs ls hP1 hD1 hS1 hl
theorem st_astq (C : Cx l G own cc nL nm R P) {a N v : Nat} {vs : List Value} {f : Nat → Option Nat} {i : Int32} (hd : decode cc pc = .ok (.aastore, 1)) (q0 qk : Nat) (he : ws[q0]? = some (a, aQ G N f)) (hv : ws[qk]? = some (v, ob 0 vs)) (hin : vp_in i N) (kk : P k n (pc + 1) lv st (ws.set q0 (a, aQ G N (va_up f i.toNatClampNeg (some v))))) : P k n pc lv (.ref v :: .int i :: .ref a :: st) ws := by
  obtain ⟨p, e, s, m, args, below, meth, c, A, Q, ⟨hx, hb, hml, hnm, hown, hts, hK, hA⟩, rfl⟩ := C
  intro H locs ls hP hD hS hl
  exact va_astq hx hb hK.1 hP hD hS q0 2 qk 0 (r := (RX1, TX1, 9)) he rfl hv rfl hin hd (fun H1 locs1 hP1 hD1 hS1 => kk H1 locs1 ls hP1 hD1 hS1 hl)
/-! calls of makers -/
theorem st_callN (C : Cv l G own cc nL nm R Ex P) {y : MethodName} {bytes : ByteArray} {maxL : Nat} {na d mc ms idx b : Nat} {As st0 : List Value} {wc : va_W} {Qr : Option Value → va_W → va_W → Prop}
    (hc : ConN l G y bytes maxL none d mc ms (.ref b :: As) wc Qr) (hy : MF y bytes maxL none na) (hi : y.name = "<init>" ∧ Cond.instanceMethod y ∈ WS) (hl : ML own idx y) (hd : decode cc pc = .ok (.invokespecial idx, 3)) (isC : List Nat) (hC : isC.map (fun i => ws[i]?) = wc.map some) (hnd9 : va_nd isC = true) (hn : As.length = na) (hst : st0 = As.reverse ++ .ref b :: st) (hW : (st.map fun v => v.category).sum ≤ 8)
    (hR : d + 1 ≤ R.frames ∧ 8 + (maxL + 11) + 38 * d ≤ R.locals) (hroom : k + mc ≤ R.cells ∧ n + ms ≤ R.slots)
    (kk : ∀ (r : Option Value) (w1 w2 : va_W), Qr r w1 w2 → P (k + mc) (n + ms) (pc + 3) lv (r.toList ++ st) (put ws isC w1 ++ w2)) : P k n pc lv st0 ws := by
  obtain ⟨p, e, s, m, args, below, meth, c, A, Q, ⟨hx, hb9, hml, hnm, hown, hts, hK, hA⟩, ⟨hV, -⟩, rfl⟩ := C
  intro H locs ls hP hD hS hl9
  obtain ⟨y1, y2, y3⟩ := hy
  have hPc : va_P G.1 vwCl wc H := fun j q hj => by
    obtain ⟨i, -, h2⟩ := isC_at' hC hj
    exact hP i q h2
  have hnd : va_D (fun _ => True) wc := (hD.sub isC hnd9 hC).weaken (fun _ _ _ _ => trivial)
  have hpre : PreS s H (conPcV G (.ref b :: As) wc H.size) (.ref b :: As) := ⟨conPcV_blind _ _ _ _, fun U hU hW9 => ⟨rfl, by rw [hU], by rw [hU]; exact hPc, VX.warm hW9 hV, hnd⟩⟩
  subst hst
  rcases hl with h1 | ⟨host, h1⟩
  · have cw : CallB R s args own idx y bytes maxL none (.code y bytes maxL none :: WS) (rmD d mc ms) mc ms na ∧ y.name = "<init>" ∧ (Cond.instanceMethod y).before args s = true :=
      ⟨callB_of na hts (ws_good y1) rfl rfl rfl (hts _ y2) (hts _ h1) y3 hR, hi.1, hts _ hi.2⟩
    exact run_join (va_runI (As := As) (rest := st) ⟨hx, hb9, hml, hown, hts⟩ (hc H.size) cw hpre rfl hn hl9.1 rfl (lv_room hW) hd hroom) hK hP hD hS hA isC hC (fun r w1 w2 hq H1 locs1 hP1 hD1 hS1 => kk r w1 w2 hq H1 locs1 ls hP1 hD1 hS1 hl9)
  · have cw := va_cnB (R := R) (index := idx) (maxL := maxL) (bytes := bytes) (ret := none) (rm := rmD d mc ms) (mc := mc) (ms := ms) na hts (ws_good y1) rfl rfl rfl (hK.2 _ h1 rfl) (hts _ y2) y3 hR
    exact run_join (va_runIN (As := As) (rest := st) ⟨hx, hb9, hml, hown, hts⟩ (hc H.size) ⟨cw, hi.1, hts _ hi.2⟩ hpre rfl hn hl9.1 rfl (lv_room hW) hd hroom) hK hP hD hS hA isC hC (fun r w1 w2 hq H1 locs1 hP1 hD1 hS1 => kk r w1 w2 hq H1 locs1 ls hP1 hD1 hS1 hl9)
/-! calls of catchers (static, with a table) -/
def MFW (y : MethodName) (bytes : ByteArray) (maxL : Nat) (ret : Option FieldType) (hh : List (Nat × Nat × Nat × Nat)) (na : Nat) : Prop :=
  Cond.codeWith y bytes maxL ret hh ∈ WS ∧ Cond.initialized y.cls ∈ WS ∧ (y.cls ≠ "java/lang/invoke/MethodHandle" ∧ y.cls ≠ "java/lang/invoke/VarHandle" ∧ (parseMethodDescriptor y.desc).map (fun d => d.parameters.length) = some na)
theorem st_callH {hh0 : Array Value → State → (Nat → Prop) → Code → Prop} (hE : ∀ args s A c, hh0 args s A c → ZQ A s s.heap) (C : Cv l G own cc nL nm R hh0 P) {y : MethodName} {bytes : ByteArray} {maxL : Nat} {ret : Option FieldType} {hh : List (Nat × Nat × Nat × Nat)} {na d mc ms idx : Nat} {As st0 : List Value} {wc : va_W} {Qr : Option Value → va_W → va_W → Prop}
    (hc : ConH l G y bytes maxL ret hh d mc ms As wc Qr) (hy : MFW y bytes maxL ret hh na) (hi : Cond.static y ∈ WS) (hl : Cond.methodLink own idx y ∈ WS) (hd : decode cc pc = .ok (.invokestatic idx, 3)) (isC : List Nat) (hC : isC.map (fun i => ws[i]?) = wc.map some) (hnd9 : va_nd isC = true) (hn : As.length = na) (hst : st0 = As.reverse ++ st) (hW : (st.map fun v => v.category).sum ≤ 8)
    (hR : d + 1 ≤ R.frames ∧ 8 + (maxL + 11) + 38 * d ≤ R.locals) (hroom : k + mc ≤ R.cells ∧ n + ms ≤ R.slots)
    (kk : ∀ (r : Option Value) (w1 w2 : va_W), Qr r w1 w2 → P (k + mc) (n + ms) (pc + 3) lv (r.toList ++ st) (put ws isC w1 ++ w2)) : P k n pc lv st0 ws := by
  obtain ⟨p, e, s, m, args, below, meth, c, A, Q, ⟨hx, hb9, hml, hnm, hown, hts, hK, hA⟩, ⟨hV, hEx⟩, rfl⟩ := C
  have hZ := hE _ _ _ _ hEx
  intro H locs ls hP hD hS hl9
  obtain ⟨y1, y2, y3⟩ := hy
  have hPc : va_P G.1 vwCl wc H := fun j q hj => by
    obtain ⟨i, -, h2⟩ := isC_at' hC hj
    exact hP i q h2
  have hnd : va_D (fun _ => True) wc := (hD.sub isC hnd9 hC).weaken (fun _ _ _ _ => trivial)
  have hF := va_free (wc := wc) hD hS hA isC hC
  have hpre : PreS s H (conPcX G As wc H.size) As := ⟨conPcX_blind _ _ _ _, fun U hU hW9 => ⟨rfl, by rw [hU], by rw [hU]; exact hPc, VX.warm hW9 hV, hnd, by rw [hU]; exact ZQ.to hZ hW9.alike hS.2.1 hF⟩⟩
  subst hst
  have hG : GoodIn WS (Cond.codeWith y bytes maxL ret hh :: WS) := WS_good (fun w hw => (List.mem_cons.mp hw).elim (fun e => e ▸ y1) id) (fun _ h => h)
  have cw : vx_CSW R s args own idx y bytes maxL ret hh (.codeWith y bytes maxL ret hh :: WS) (rmD d mc ms) mc ms na :=
    ⟨⟨rfl, rfl, hR.1, hR.2, pay_in hts hG, List.mem_cons_self⟩, hts _ y1, hts _ y2, ⟨y3.1, y3.2.1⟩, fun sig h => by have h2 := y3.2.2; rw [h] at h2; exact (Option.some.inj h2).symm, hts _ hl, hts _ hi⟩
  exact run_join (vx_runSW (As := As) (rest := st) ⟨hx, hb9, hml, hown, hts⟩ (hc H.size) cw hpre rfl hn hl9.1 rfl (lv_room hW) hd hroom) hK hP hD hS hA isC hC (fun r w1 w2 hq H1 locs1 hP1 hD1 hS1 => kk r w1 w2 hq H1 locs1 ls hP1 hD1 hS1 hl9)
/-! calls of throwers, caught here -/
/-- what the tables say of the handler at tgt for an exception E thrown at pc -/
def HD (own : String) (hh : List (Nat × Nat × Nat × Nat)) (pc : Nat) (E : String) (tgt : Nat) : Prop :=
  ∃ (pre : List ExceptionTableEntry) (x : ExceptionTableEntry) (suf : List ExceptionTableEntry) (name : String), tableOf hh = pre ++ x :: suf ∧ x.handlerPc = tgt ∧ covers x pc = true ∧ x.catchType ≠ 0 ∧ Cond.classLink own x.catchType name ∈ WS ∧ Cond.castable E name ∈ lw_tbl ∧
    ∀ z ∈ pre, z.catchType ≠ 0 ∧ ∃ nm : String, Cond.classLink own z.catchType nm ∈ WS ∧ ∀ U : State, NX U → va_Nc E nm U
theorem st_callX {hh : List (Nat × Nat × Nat × Nat)} (C : Cv l G own cc nL nm R (exH hh) P) {y : MethodName} {bytes : ByteArray} {maxL : Nat} {ret : Option FieldType} {na d mc ms idx b ci : Nat} {fs : List Value} {As st0 : List Value} {wc : va_W} {Qr : Option Value → va_W → va_W → Prop} {QX : String → va_W → Prop} {T : u_T} {N : Nat}
    (hc : ConX l G y bytes maxL ret d mc ms (.ref b :: As) wc Qr QX) (hy : MF y bytes maxL ret na) (hi : Cond.instanceMethod y ∈ WS ∧ Cond.selects y.cls y y ∈ WS) (hl : Cond.methodLink own idx y ∈ WS) (hd : decode cc pc = .ok (.invokevirtual idx, 3)) (isC : List Nat) (hC : isC.map (fun i => ws[i]?) = wc.map some) (hnd9 : va_nd isC = true) (hn : As.length = na) (hst : st0 = As.reverse ++ .ref b :: st) (hW : (st.map fun v => v.category).sum ≤ 8)
    (hb : wc[0]? = some (b, .inr (ci, fs))) (hcl : vwCl[ci]? = some (y.cls, T, N)) (hR : d + 1 ≤ R.frames ∧ 8 + (maxL + 11) + 38 * d ≤ R.locals) (hroom : k + mc ≤ R.cells ∧ n + ms ≤ R.slots)
    (kx : ∀ (E : String) (w1 : va_W), QX E w1 → ∃ tgt : Nat, HD own hh pc E tgt ∧ ∀ q : Nat, P (k + mc) (n + ms) tgt lv [.ref q] (put ws isC w1))
    (kk : ∀ (r : Option Value) (w1 w2 : va_W), Qr r w1 w2 → P (k + mc) (n + ms) (pc + 3) lv (r.toList ++ st) (put ws isC w1 ++ w2)) : P k n pc lv st0 ws := by
  obtain ⟨p, e, s, m, args, below, meth, c, A, Q, ⟨hx, hb9, hml, hnm, hown, hts, hK, hA⟩, ⟨hV, hZ, htab⟩, rfl⟩ := C
  intro H locs ls hP hD hS hl9
  obtain ⟨y1, y2, y3⟩ := hy
  have hPc : va_P G.1 vwCl wc H := fun j q hj => by
    obtain ⟨i, -, h2⟩ := isC_at' hC hj
    exact hP i q h2
  have hnd : va_D (fun _ => True) wc := (hD.sub isC hnd9 hC).weaken (fun _ _ _ _ => trivial)
  have hF := va_free (wc := wc) hD hS hA isC hC
  have hpre : PreV s H y.cls b (conPcX G (.ref b :: As) wc H.size) As := ⟨conPcX_blind _ _ _ _, va_recv hK.1 hPc hcl hb, fun U hU hW9 => ⟨rfl, by rw [hU], by rw [hU]; exact hPc, VX.warm hW9 hV, hnd, by rw [hU]; exact ZQ.to hZ hW9.alike hS.2.1 hF⟩⟩
  subst hst
  have cw : CallW R s args own y.cls idx y bytes maxL ret (.code y bytes maxL ret :: WS) (rmD d mc ms) mc ms na :=
    ⟨callB_of na hts (ws_good y1) rfl rfl rfl (hts _ y2) (hts _ hl) y3 hR, hts _ hi.1, hts _ hi.2⟩
  have hr := vx_runV (e := e) (below := below) (meth := meth) (As := As) (rest := st) (g := F0 m pc ls (As.reverse ++ .ref b :: st)) (H := H) (locs := locs) (cells := k) (slots := n) (mc := mc) (ms := ms) ⟨hx, hb9, hml, hown, hts⟩ (hc H.size) cw hpre rfl hn hl9.1 rfl (lv_room hW) hd hroom
  intro T1 hT X
  rcases hr T1 hT X with ⟨v, st₀, t, T', L, h0, X', hL, e1, e2, ⟨r, w1, w2, hv, hq, h1, hP1, hD1, hz, hk⟩, hst⟩ | ⟨q, st₀, t, T', L, E, ce, h0, X', hL, e1, e2, ⟨w1, hq, h1, hP1, hD1, hz, hk⟩, hce, hcv, hcl9, hst⟩
  · cases hv
    rw [h0] at hz hk
    obtain ⟨j1, j2⟩ := put_join hP hD isC hC hk hF h1 hP1 hD1
    rw [← e1] at j1 hz hk
    obtain ⟨t2, a1, b1⟩ := kk v w1 w2 hq T'.heap (locs ++ L) ls j1 j2 ⟨Nat.le_trans hS.1 hz, fun q g1 g2 => by rw [hk q (Nat.lt_of_lt_of_le g1 hS.1) (fun z => g2 (hF q z))]; exact hS.2.1 q g1 g2, fun q hq => by
        rcases List.mem_append.mp hq with h | h
        · exact hS.2.2 q h
        · exact hF _ (hL q h)⟩ hl9 T' rfl X'
    exact ⟨t2, hst t2 a1, b1⟩
  · rw [h0] at hz hk
    have hP2 : va_P G.1 vwCl (w1 ++ []) t.heap := by rw [List.append_nil]; exact hP1
    have hD2 : va_D (va_A wc H.size) (w1 ++ []) := by rw [List.append_nil]; exact hD1
    obtain ⟨j1, j2⟩ := put_join hP hD isC hC hk hF h1 hP2 hD2
    rw [List.append_nil] at j1 j2
    rw [← e1] at j1 hz hk hce
    obtain ⟨tgt, ⟨pre, x, suf, name, t1, t2, t3, t4, t5, t6, t7⟩, kx2⟩ := kx E w1 hq
    have hS1 : va_S A s.heap T'.heap (locs ++ L) := ⟨Nat.le_trans hS.1 hz, fun q g1 g2 => by rw [hk q (Nat.lt_of_lt_of_le g1 hS.1) (fun z => g2 (hF q z))]; exact hS.2.1 q g1 g2, fun q hq => by
        rcases List.mem_append.mp hq with h | h
        · exact hS.2.2 q h
        · exact hF _ (hL q h)⟩
    have hc9 := vx_catch (p := p) (l := l) (e := e) (R := R) (s := s) (m := m) (args := args) (below := below) (meth := meth) (c := c) (H := T'.heap) (locs := locs ++ L) (cells := k + mc) (slots := n + ms) (Q := Q) (pc := pc) (ls := ls) (rest := st) (q := q) (E := E) (ce := ce) hown pre x suf (htab.trans t1) (fun z hz9 => by
        obtain ⟨u1, nm9, u2, u3⟩ := t7 z hz9
        exact Or.inr ⟨u1, nm9, hts _ u2, u3 s hV.2.2.1⟩) t3 t4 (hts _ t5) (va_Nw.use rfl (hV.2.2.2.2 _ t6 rfl)) hce hcv hcl9 (by rw [t2]; exact kx2 q T'.heap (locs ++ L) ls j1 j2 hS1 hl9)
    obtain ⟨t2', a1, b1⟩ := hc9 T' rfl X'
    exact ⟨t2', hst.trans a1, b1⟩
end Rows2
