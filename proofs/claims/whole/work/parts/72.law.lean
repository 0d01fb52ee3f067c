/-! the law: what its loop keeps, its script -/
def exL (b L : Nat) (xs : Nat → Int32) : Array Value → State → (Nat → Prop) → Code → Prop := fun _ s A _ => ZQ A s s.heap ∧ va_X b L xs s s.heap ∧ b < s.heap.size ∧ ¬ A b
section Law9
variable {l : Launch} {G : wG} {own : String} {cc : ByteArray} {nL : Nat} {nm : String} {R : Room} {P : PT} {k n pc : Nat} {lv : List (Nat × Value)} {st : List Value} {ws : va_W} {b L : Nat} {xs : Nat → Int32}
theorem st_sld (C : Cv l G own cc nL nm R (exL b L xs) P) {i v : Int32} (hd : decode cc pc = .ok (.iaload, 1)) (hin : vp_in i L) (hv : xs i.toNatClampNeg = v) (kk : P k n (pc + 1) lv (.int v :: st) ws) : P k n pc lv (.int i :: .ref b :: st) ws := by
  obtain ⟨p, e, s, m, args, below, meth, c, A, Q, ⟨hx, hb, hml, hnm, hown, hts, hK, hA⟩, ⟨hV, hZ, hX, hbl, hbA⟩, rfl⟩ := C
  intro H locs ls hP hD hS hl
  subst hv
  exact va_sld hx hb hX hbl hbA hS hin hd (kk H locs ls hP hD hS hl)
theorem st_slen (C : Cv l G own cc nL nm R (exL b L xs) P) (hd : decode cc pc = .ok (.arraylength, 1)) (kk : P k n (pc + 1) lv (.int (Int32.ofNat L) :: st) ws) : P k n pc lv (.ref b :: st) ws := by
  obtain ⟨p, e, s, m, args, below, meth, c, A, Q, ⟨hx, hb, hml, hnm, hown, hts, hK, hA⟩, ⟨hV, hZ, hX, hbl, hbA⟩, rfl⟩ := C
  intro H locs ls hP hD hS hl
  exact va_slen hx hb hX hbl hbA hS hd (kk H locs ls hP hD hS hl)
end Law9
def Rl (cc : ByteArray) (P : PT) : Prop := ∀ (k n pc : Nat) (lv : List (Nat × Value)) (ws : va_W), k ≤ 601024 → n ≤ 7293034 → decode cc pc = .ok (.ireturn, 1) → P k n pc lv [.int 1] ws
theorem hdT_add {f : Nat → Int32} {n j : Nat} {tx : Nat → Nat} (h : hdT f n tx) (h1 : 33 ≤ j) (h2 : j ≤ 126) : hdT (upd f n (nI j)) (n + 1) (updS tx n j) := by
  intro i hi
  by_cases e : i = n
  · subst e; rw [pk_us, updS_s]; exact ⟨rfl, h1, h2⟩
  · rw [pk_un e, updS_n _ _ e]; exact h i (by omega)
theorem hdT_0 (f : Nat → Int32) (tx : Nat → Nat) : hdT f 0 tx := fun j hj => absurd hj (Nat.not_lt_zero j)
theorem u_nI {a b : Nat} {x : Int32} (h1 : x = nI a) (h2 : x = nI b) (ha : a < 2 ^ 32) (hb : b < 2 ^ 32) : b = a := by
  have h3 : nI b = nI a := h2.symm.trans h1
  have h4 := congrArg (fun z : Int32 => z.toBitVec.toNat) h3
  simp only [nI] at h4
  have e : ∀ n : Nat, (Int32.ofNat n).toBitVec.toNat = n % 2 ^ 32 := fun n => BitVec.toNat_ofNat n 32
  rw [e, e, Nat.mod_eq_of_lt hb, Nat.mod_eq_of_lt ha] at h4
  exact h4
abbrev INV (s : mS) (k : Nat) (pp : Nat → mS) (n : Nat) (tx : Nat → Nat) (ns : Nat → Int32) (lk : Nat → Int32) (ld : Nat → Int32) (nx : Int32) (sz : Int32) (rs : Nat → Nat → Int32) (rl : Nat → Nat → Int32) (rd : Nat → Nat → Int32) (tl : Int32) (cd : Nat → Int32) (ke : Int32) (ty : Int32) (il : Int32) (f0 : Nat → Int32) (f2 : Nat → Int32) (f3 : Nat → Int32) (qu : Nat → Int32) (fr : Nat → Int32) (by9 : Nat → Int32) (fa : Nat → Int32) (fs : Nat → Int32) : Prop := CRep s ns lk ld ∧ SvR k pp nx sz rs rl rd ∧ tl = nI n ∧ n ≤ 60 ∧ hdT cd n tx ∧ hd53 f0 s ∧ pastR f2 k pp ∧ ke = nI k ∧ ty = nI n ∧ hdT f3 n tx ∧ (il = 0 ∨ (il = 1 ∧ MRel (fS s) qu fr by9 fa fs))
def LH (P : PT) (G : wG) (b K p q1 q2 o o1 o2 v v1 : Nat) (u u1 u2 : Nat → Nat) (t t1 t2 t3 t4 y y1 M : Nat) (A : Nat → Nat) (e : Nat) (k9 n9 : Nat) (x : Int32) : Prop := ∀ (s : mS) (k : Nat) (pp : Nat → mS) (n : Nat) (tx : Nat → Nat) (ns : Nat → Int32) (lk : Nat → Int32) (ld : Nat → Int32) (os : Nat → Int32) (olk : Nat → Int32) (old : Nat → Int32) (nx : Int32) (sz : Int32) (rs : Nat → Nat → Int32) (rl : Nat → Nat → Int32) (rd : Nat → Nat → Int32) (zz : Int32) (rc : Int32) (en : Nat → Int32) (sn : Nat → Int64) (nd : Nat → Int32) (ln : Nat → Int32) (tl : Int32) (ce : Int32) (la : Int32) (cd : Nat → Int32) (ke : Int32) (ty : Int32) (th : Int32) (ap : Int32) (ft : Int32) (bo : Int32) (ot : Int32) (il : Int32) (f0 : Nat → Int32) (f1 : Nat → Int32) (f2 : Nat → Int32) (f3 : Nat → Int32) (f4 : Nat → Int32) (qu : Nat → Int32) (fr : Nat → Int32) (by9 : Nat → Int32) (fa : Nat → Int32) (fs : Nat → Int32) (og : Nat → Int64), INV s k pp n tx ns lk ld nx sz rs rl rd tl cd ke ty il f0 f2 f3 qu fr by9 fa fs → P k9 n9 1250 [(0, .ref b), (1, .ref K), (2, .ref M), (3, .ref e), (4, .int x)] [] [(K, ob 4 (kF p o v t y)), (p, ob 0 (cR q1 q2 ns)), (q1, aI G 15 lk), (q2, aI G 16 ld), (o, ob 0 (cR o1 o2 os)), (o1, aI G 15 olk), (o2, aI G 16 old), (v, ob 1 (vF v1 nx sz)), (v1, aQ G 6 (fun k => some (u k))), (u 0, ob 0 (cR (u1 0) (u2 0) (rs 0))), (u1 0, aI G 15 (rl 0)), (u2 0, aI G 16 (rd 0)), (u 1, ob 0 (cR (u1 1) (u2 1) (rs 1))), (u1 1, aI G 15 (rl 1)), (u2 1, aI G 16 (rd 1)), (u 2, ob 0 (cR (u1 2) (u2 2) (rs 2))), (u1 2, aI G 15 (rl 2)), (u2 2, aI G 16 (rd 2)), (u 3, ob 0 (cR (u1 3) (u2 3) (rs 3))), (u1 3, aI G 15 (rl 3)), (u2 3, aI G 16 (rd 3)), (u 4, ob 0 (cR (u1 4) (u2 4) (rs 4))), (u1 4, aI G 15 (rl 4)), (u2 4, aI G 16 (rd 4)), (u 5, ob 0 (cR (u1 5) (u2 5) (rs 5))), (u1 5, aI G 15 (rl 5)), (u2 5, aI G 16 (rd 5)), (t, ob 2 (sF t1 t2 t3 t4 zz rc)), (t1, aI G 4624 en), (t2, aJ G 256 sn), (t3, aI G 16 nd), (t4, aI G 16 ln), (y, ob 3 (tF y1 tl ce la)), (y1, aI G 60 cd), (M, ob 5 (mF A ke ty th ap ft bo ot il)), (A 0, aI G 53 f0), (A 1, aI G 53 f1), (A 2, aI G 318 f2), (A 3, aI G 60 f3), (A 4, aI G 48 f4), (A 5, aI G 4624 qu), (A 6, aI G 4624 fr), (A 7, aI G 4624 by9), (A 8, aI G 4624 fa), (A 9, aI G 16 fs), (e, aJ G 1 og)]
