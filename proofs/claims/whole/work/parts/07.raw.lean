/-! the landed class's own reckoning, as plain functions over int: a function a method -/
theorem iadd_ofInt (x c : Int32) (j : Int) (h : Int32.ofInt j = c) : x + Int32.ofInt j = x + c := by rw [h]
def rOf (a b c : Int32) : Int32 := a ||| (b <<< (4 &&& 31)) ||| (c <<< (9 &&& 31))
def rCell (x : Int32) : Int32 := x &&& 15
def rFst (x : Int32) : Int32 := (x >>> (4 &&& 31)) &&& 31
def rSnd (x : Int32) : Int32 := (x >>> (9 &&& 31)) &&& 31
def rMov (x c : Int32) : Int32 := rOf c (rFst x) (rSnd x)
def rSwP (a c : Int32) : Int32 := if a = 16 then c else if a = c then 16 else a
def rSwp (x : Int32) : Int32 := rOf (rCell x) (rSwP (rFst x) (rCell x)) (rSwP (rSnd x) (rCell x))
def rIn (x n : Int32) : Int32 := if x < 0 then 0 else if n ≤ x then 0 else 1
def rBowOk (x : Int32) : Int32 := if x < 0 then 0 else if 5 < x then 0 else 1
def rMix (h v : Int64) : Int64 := 31 * h + v
/-- a corridor's fields -/
abbrev cF (q1 q2 : Nat) (fb sb co le sp sw dp : Int32) : List Value := [.ref q1, .ref q2, .int fb, .int sb, .int co, .int le, .int sp, .int sw, .int dp]
def rBow (fb sb x p : Int32) : Int32 := if rFst x = p then fb else if rSnd x = p then sb else 0
def rKeys (fb sb : Int32) : Int32 := (if fb = 0 then 0 else 1) + (if sb = 0 then 0 else 1)
def rLock (lk : Nat → Int32) (c : Int32) : Int32 := if rIn c 15 = 0 then 0 else lk c.toNatClampNeg
def rLad (ld : Nat → Int32) (c : Int32) : Int32 := if rIn c 16 = 0 then 0 else ld c.toNatClampNeg
def rFloor (le c : Int32) : Int32 := if le ≤ 0 then 0 else c / le
def rByL (ld : Nat → Int32) (c p : Int32) : Int32 := if c < 0 then -1 else if 16 ≤ c then -1 else if p < 0 then -1 else if p < 16 then (if ld c.toNatClampNeg = 0 then (if ld p.toNatClampNeg = 0 then -1 else p) else p) else -1
def rBelow (ld : Nat → Int32) (le c : Int32) : Int32 := rByL ld c (2 * le * rFloor le c - 1 - c)
def rAbove (ld : Nat → Int32) (le c : Int32) : Int32 := rByL ld c (2 * le * (rFloor le c + 1) - 1 - c)
def rTgt (ld : Nat → Int32) (le c s : Int32) : Int32 := if s = 0 then (if c ≤ 0 then -1 else c - 1) else if s = 1 then (if 15 ≤ c then -1 else c + 1) else if s = 2 then rBelow ld le c else if s = 3 then rAbove ld le c else -1
def rWay (lk : Nat → Int32) (c s : Int32) : Int32 := if s = 0 then rLock lk (c - 1) else if s = 1 then rLock lk c else 0
def rAft (lk ld : Nat → Int32) (fb sb le x s : Int32) : Int32 :=
  if s = 4 then (if rBow fb sb x 16 = 0 then (if rBow fb sb x (rCell x) = 0 then -1 else rSwp x) else rSwp x)
  else if rTgt ld le (rCell x) s = -1 then -1
  else if rWay lk (rCell x) s = 0 then rMov x (rTgt ld le (rCell x) s)
  else if rWay lk (rCell x) s = rBow fb sb x 16 then rMov x (rTgt ld le (rCell x) s) else -2
def rReas (lk ld : Nat → Int32) (fb sb le x s : Int32) : Int32 := if 0 ≤ rAft lk ld fb sb le x s then 0 else - rAft lk ld fb sb le x s
/-- the array index of a tested cell -/
theorem rIn_vp {c : Int32} {n : Nat} {m : Int32} (hn : n < 2 ^ 31) (hm : m = nI n) (h : ¬ rIn c m = 0) : vp_in c n := by
  unfold rIn at h
  by_cases h1 : c < 0
  · simp [h1] at h
  · by_cases h2 : m ≤ c
    · simp [h1, h2] at h
    · obtain ⟨j, hj, rfl⟩ := nI_of h1
      subst hm
      rw [nI_leI hn hj] at h2
      exact vp_in_nI (by omega) hn
theorem vp_of {c : Int32} {n : Nat} {m : Int32} (hn : n < 2 ^ 31) (hm : m = nI n) (h1 : ¬ c < 0) (h2 : ¬ m ≤ c) : vp_in c n := rIn_vp hn hm (by simp [rIn, h1, h2])
theorem vp_ofN {c : Int32} {n : Nat} {m : Int32} (hn : n < 2 ^ 31) (hm : m = nI n) (h1 : ¬ c < 0) (h2 : c < m) : vp_in c n := by
  refine vp_of hn hm h1 (fun h => ?_)
  rw [Int32.le_iff_toInt_le] at h
  rw [Int32.lt_iff_toInt_lt] at h2
  omega
def rSetA (f : Nat → Int32) (n c v : Int32) : Nat → Int32 := if rIn c n = 0 then f else upd f c.toNatClampNeg v
def rTak (q1 q2 : Nat) (lk ld : Nat → Int32) (fb sb co le sp sw dp a : Int32) : List Value :=
  if 0 ≤ rAft lk ld fb sb le co a then cF q1 q2 fb sb (rAft lk ld fb sb le co a) le (sp + 1) (if a = 4 then sw + 1 else sw) (if rWay lk (rCell co) a = 0 then dp else dp + 1) else cF q1 q2 fb sb co le sp sw dp
def rPutP (c v : Int32) : Int32 := if v = 0 then 17 else c
/-- whether the first, or the second key is the one that is put -/
def rPut1 (co c : Int32) : Prop := rFst co = c ∨ (¬ rSnd co = c ∧ rFst co = 17)
def rPut2 (co c : Int32) : Prop := rSnd co = c ∨ rSnd co = 17
def rPut (q1 q2 : Nat) (fb sb co le sp sw dp c v : Int32) : List Value :=
  if rFst co = c then cF q1 q2 v sb (rOf (rCell co) (rPutP c v) (rSnd co)) le sp sw dp
  else if rSnd co = c then cF q1 q2 fb v (rOf (rCell co) (rFst co) (rPutP c v)) le sp sw dp
  else if rFst co = 17 then cF q1 q2 v sb (rOf (rCell co) (rPutP c v) (rSnd co)) le sp sw dp
  else if rSnd co = 17 then cF q1 q2 fb v (rOf (rCell co) (rFst co) (rPutP c v)) le sp sw dp
  else cF q1 q2 fb sb (rOf (rCell co) (rFst co) (rSnd co)) le sp sw dp
def rDoors (lk : Nat → Int32) : Nat → Int32
  | 0 => 0
  | n + 1 => if lk n = 0 then rDoors lk n else rDoors lk n + 1
def rLads (ld : Nat → Int32) (le : Int32) : Nat → Int32
  | 0 => 0
  | n + 1 => if rAbove ld le (nI n) = -1 then rLads ld le n else rLads ld le n + 1
theorem ge_nI {a i : Nat} {x y : Int32} (ha : a < 2 ^ 31) (hi : i < 2 ^ 31) (hx : x = nI a) (hy : y = nI i) : (x ≤ y) ↔ a ≤ i := by subst hx; subst hy; exact nI_leI ha hi
theorem lt_nI {a i : Nat} {x y : Int32} (ha : a < 2 ^ 31) (hi : i < 2 ^ 31) (hx : x = nI a) (hy : y = nI i) : (x < y) ↔ a < i := by subst hx; subst hy; exact nI_ltI ha hi
theorem eq_nI {a i : Nat} {x y : Int32} (ha : a < 2 ^ 31) (hi : i < 2 ^ 31) (hx : x = nI a) (hy : y = nI i) : (x = y) ↔ a = i := by subst hx; subst hy; exact nI_eq ha hi
theorem vp_nI {x : Int32} {i n : Nat} (hx : x = nI i) (h : i < n) (hn : n < 2 ^ 31) : vp_in x n := by subst hx; exact vp_in_nI h hn
theorem cl_nI {x : Int32} {i : Nat} (hx : x = nI i) (h : i < 2 ^ 31) : x.toNatClampNeg = i := by subst hx; exact nI_clamp h
theorem up_nI {x : Int32} {i : Nat} (hx : x = nI i) : x + 1 = nI (i + 1) := by subst hx; exact nI_1 i
theorem upd_cp {f g : Nat → Int32} {i : Nat} {x : Int32} (hx : x = nI i) (hi : i < 2 ^ 31) (h : ∀ j, j < i → f j = g j) : ∀ j, j < i + 1 → upd f x.toNatClampNeg (g x.toNatClampNeg) j = g j := by
  intro j hj
  rw [cl_nI hx hi]
  by_cases hji : j = i
  · subst hji; exact pk_us
  · rw [pk_un hji]; exact h j (by omega)
/-! the search -/
abbrev sF (n1 n2 n3 n4 : Nat) (sz rc : Int32) : List Value := [.ref n1, .ref n2, .ref n3, .ref n4, .int sz, .int rc]
def rCde (e : Int32) : Int32 := e &&& 16383
def rStp (e : Int32) : Int32 := (e >>> (14 &&& 31)) &&& 7
def rBef (e : Int32) : Int32 := e >>> (17 &&& 31)
def rEnt (en : Nat → Int32) (i : Int32) : Int32 := if i < 0 then 0 else if 4624 ≤ i then 0 else en i.toNatClampNeg
def rLen (ln : Nat → Int32) (c : Int32) : Int32 := if rIn c 16 = 0 then -1 else ln c.toNatClampNeg
def rChase (en : Nat → Int32) (e : Int32) : Nat → Int32
  | 0 => e
  | n + 1 => rChase en (rEnt en (rBef e)) n
def rStepTo (en nd ln : Nat → Int32) (c a : Int32) : Int32 :=
  if rIn c 16 = 0 then -1 else if a < 0 then -1 else if a < ln c.toNatClampNeg then rStp (rChase en (rEnt en (nd c.toNatClampNeg)) ((ln c.toNatClampNeg).toNatClampNeg - 1 - a.toNatClampNeg)) else -1
def rMax (a b : Int32) : Int32 := if a < b then b else a
def rMin (a b : Int32) : Int32 := if b < a then b else a
def rMost (ln : Nat → Int32) : Nat → Int32
  | 0 => 0
  | n + 1 => rMax (rMost ln n) (ln n)
def rSum (ln : Nat → Int32) : Nat → Int32
  | 0 => 0
  | n + 1 => rSum ln n + rMax 0 (ln n)
def rBit (c : Int32) : Int64 := 1 <<< ((c &&& 63).toInt64 &&& 63)
def rRow (c : Int32) : Int32 := (c >>> (6 &&& 31)) &&& 255
/-- what add makes of the search's cells -/
def rAdd (G : wG) (t t1 t2 t3 t4 : Nat) (sz rc : Int32) (en : Nat → Int32) (sn : Nat → Int64) (nd ln : Nat → Int32) (c s b l : Int32) : va_W :=
  if lg_cmp (sn (rRow c).toNatClampNeg &&& rBit c) 0 = 0 then
    if sz < 4624 then
      if ln (rCell c).toNatClampNeg = -1 then
        [(t, ob 2 (sF t1 t2 t3 t4 (sz + 1) (rc + 1))), (t1, aI G 4624 (upd en sz.toNatClampNeg (c ||| (s <<< (14 &&& 31)) ||| (b <<< (17 &&& 31))))), (t2, aJ G 256 (vp_updL sn (rRow c).toNatClampNeg (sn (rRow c).toNatClampNeg ||| rBit c))), (t3, aI G 16 (upd nd (rCell c).toNatClampNeg sz)), (t4, aI G 16 (upd ln (rCell c).toNatClampNeg l))]
      else
        [(t, ob 2 (sF t1 t2 t3 t4 (sz + 1) rc)), (t1, aI G 4624 (upd en sz.toNatClampNeg (c ||| (s <<< (14 &&& 31)) ||| (b <<< (17 &&& 31))))), (t2, aJ G 256 (vp_updL sn (rRow c).toNatClampNeg (sn (rRow c).toNatClampNeg ||| rBit c))), (t3, aI G 16 nd), (t4, aI G 16 ln)]
    else [(t, ob 2 (sF t1 t2 t3 t4 sz rc)), (t1, aI G 4624 en), (t2, aJ G 256 sn), (t3, aI G 16 nd), (t4, aI G 16 ln)]
  else [(t, ob 2 (sF t1 t2 t3 t4 sz rc)), (t1, aI G 4624 en), (t2, aJ G 256 sn), (t3, aI G 16 nd), (t4, aI G 16 ln)]
theorem upd_cpL {f g : Nat → Int64} {i : Nat} {x : Int32} (hx : x = nI i) (hi : i < 2 ^ 31) (h : ∀ j, j < i → f j = g j) : ∀ j, j < i + 1 → vp_updL f x.toNatClampNeg (g x.toNatClampNeg) j = g j := by
  intro j hj
  rw [cl_nI hx hi]
  by_cases hji : j = i
  · subst hji; exact pk_uLs
  · rw [pk_uLn hji]; exact h j (by omega)
theorem vp_small {x : Int32} {m : Int32} (k : Nat) (hm : m.toBitVec.toNat = 2 ^ k - 1) (hk : k ≤ 30) : vp_in (x &&& m) (2 ^ k) := pk_andIn x k hm hk
theorem lt_pos {j : Nat} {y : Int32} (hj : j < 2 ^ 31) (h : nI j < y) : ∃ b : Nat, b < 2 ^ 31 ∧ j < b ∧ y = nI b := by
  have h0 : ¬ y < 0 := by
    intro h1
    rw [Int32.lt_iff_toInt_lt] at h h1
    rw [nI_toInt hj] at h
    have : (0 : Int32).toInt = 0 := by decide
    omega
  obtain ⟨b, hb, rfl⟩ := nI_of h0
  exact ⟨b, hb, (nI_ltI hj hb).mp h, rfl⟩
/-! the text -/
abbrev tF (x1 : Nat) (le ce la : Int32) : List Value := [.ref x1, .int le, .int ce, .int la]
def rAt (cd : Nat → Int32) (i : Int32) : Int32 := if i < 0 then 0 else if 60 ≤ i then 0 else cd i.toNatClampNeg
def rTkB (ce b fb sb : Int32) : Int32 := if 16 ≤ ce then 0 else if b = 0 then 1 else if rKeys fb sb < 2 then 1 else 0
def rTkT (x1 : Nat) (le ce la b fb sb : Int32) : List Value := if rTkB ce b fb sb = 1 then tF x1 le (ce + 1) 1 else tF x1 le ce la
def rTkC (q1 q2 : Nat) (fb sb co le sp sw dp ce b : Int32) : List Value := if rTkB ce b fb sb = 1 then rPut q1 q2 fb sb co le sp sw dp ce b else cF q1 q2 fb sb co le sp sw dp
def rTlB (la : Int32) : Int32 := if la = 1 then 1 else 0
def rTlT (x1 : Nat) (le ce la : Int32) : List Value := if rTlB la = 1 then tF x1 le ce 2 else tF x1 le ce la
def rTlD (ld : Nat → Int32) (ce la : Int32) : Nat → Int32 := if rTlB la = 1 then rSetA ld 16 (ce - 1) 1 else ld
def rTdB (la ce : Int32) : Int32 := if la = 1 then (if ce < 16 then 1 else 0) else if la = 2 then (if ce < 16 then 1 else 0) else 0
def rTdT (x1 : Nat) (le ce la : Int32) : List Value := if rTdB la ce = 1 then tF x1 le ce 3 else tF x1 le ce la
def rTdK (lk : Nat → Int32) (ce la v : Int32) : Nat → Int32 := if rTdB la ce = 1 then rSetA lk 15 (ce - 1) v else lk
/-- what kind of sign: 0 a key's, 1 a ladder's, 2 a door's, 3 none -/
def rKind (c : Int32) : Nat := if c = 46 then 0 else if c < 49 then (if c = 124 then 1 else if c < 97 then 3 else if 101 < c then 3 else 2) else if 53 < c then (if c = 124 then 1 else if c < 97 then 3 else if 101 < c then 3 else 2) else 0
def rKey (c : Int32) : Int32 := if c = 46 then 0 else c - 48
def rTB (c ce la fb sb : Int32) : Int32 := match rKind c with | 0 => rTkB ce (rKey c) fb sb | 1 => rTlB la | 2 => rTdB la ce | _ => 0
def rTT (x1 : Nat) (c le ce la fb sb : Int32) : List Value := match rKind c with | 0 => rTkT x1 le ce la (rKey c) fb sb | 1 => rTlT x1 le ce la | 2 => rTdT x1 le ce la | _ => tF x1 le ce la
def rTC (q1 q2 : Nat) (fb sb co le sp sw dp c ce : Int32) : List Value := match rKind c with | 0 => rTkC q1 q2 fb sb co le sp sw dp ce (rKey c) | _ => cF q1 q2 fb sb co le sp sw dp
def rTK (lk : Nat → Int32) (c ce la : Int32) : Nat → Int32 := match rKind c with | 2 => rTdK lk ce la (c - 97 + 1) | _ => lk
def rTD (ld : Nat → Int32) (c ce la : Int32) : Nat → Int32 := match rKind c with | 1 => rTlD ld ce la | _ => ld
/-! the saves -/
abbrev vF (v1 : Nat) (nx sz : Int32) : List Value := [.ref v1, .int nx, .int sz]
theorem rTkB_01 (ce b fb sb : Int32) : rTkB ce b fb sb = 0 ∨ rTkB ce b fb sb = 1 := by unfold rTkB; split <;> (try split) <;> (try split) <;> simp
theorem rTlB_01 (la : Int32) : rTlB la = 0 ∨ rTlB la = 1 := by unfold rTlB; split <;> simp
theorem rTdB_01 (la ce : Int32) : rTdB la ce = 0 ∨ rTdB la ce = 1 := by unfold rTdB; split <;> (try split) <;> (try split) <;> simp
theorem rTdB_1 {la ce : Int32} (h : ¬ rTdB la ce = 0) : rTdB la ce = 1 := (rTdB_01 la ce).resolve_left h
/-- a corridor's fields as a row of seven -/
abbrev cR (a b : Nat) (s : Nat → Int32) : List Value := cF a b (s 0) (s 1) (s 2) (s 3) (s 4) (s 5) (s 6)
