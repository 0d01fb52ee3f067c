/-! the reference's reckoning -/
def rInR (v lo hi : Int32) : Int32 := if v < lo then 0 else if hi < v then 0 else 1
theorem rInR_01 (v lo hi : Int32) : rInR v lo hi = 0 ∨ rInR v lo hi = 1 := by unfold rInR; split <;> (try split) <;> simp
theorem rInR_nI {k n : Nat} {hi : Int32} (hk : k < 2 ^ 31) (hn : n < 2 ^ 31) (hh : hi = nI n) : rInR (nI k) 0 hi = if k ≤ n then 1 else 0 := by
  unfold rInR
  rw [if_neg (nI_pos hk)]
  subst hh
  by_cases h : k ≤ n
  · rw [if_neg (fun h9 => by have := (nI_ltI hn hk).mp h9; omega), if_pos h]
  · rw [if_pos ((nI_ltI hn hk).mpr (by omega)), if_neg h]
theorem rInR_neg {x lo hi : Int32} (h : x < lo) : rInR x lo hi = 0 := by unfold rInR; rw [if_pos h]
theorem nadd (a c : Nat) {x : Int32} (h : x = nI a) : x + nI c = nI (a + c) := by subst h; exact nI_add a c
/-- an int array holds a state -/
def hd53 (f : Nat → Int32) (s : mS) : Prop := ∀ j, j < 53 → f j = nI (s j)
theorem hd53.at {f : Nat → Int32} {s : mS} (h : hd53 f s) {x : Int32} {j : Nat} (hx : x = nI j) (hj : j < 53) : f x.toNatClampNeg = nI (s j) := by rw [cl_nI hx (by omega)]; exact h j hj
theorem upN_lt {s : mS} {c o : Nat} (h : upN s c = some o) : o < 16 := by
  unfold upN at h; split at h
  · rename_i h1; have := Option.some.inj h; omega
  · cases h
theorem dnN_lt {s : mS} {c o : Nat} (h : dnN s c = some o) : o < 16 := by
  unfold dnN at h; split at h
  · cases h
  · split at h
    · rename_i h1; have := Option.some.inj h; omega
    · cases h
def refN (s : mS) (st : Nat) : Nat := if st = 4 then (if s 2 = 0 ∧ s (6 + s 1) = 0 then 1 else 0) else match ldN s (s 1) st with
  | none => 1
  | some _ => if 0 < wyN s (s 1) st ∧ wyN s (s 1) st ≠ s 2 then 2 else 0
theorem neg1 : ((-1 : Int32)) < 0 := by decide
theorem rInR15 {o : Nat} (ho : o < 2 ^ 31) : rInR (nI o) 0 15 = if o < 16 then 1 else 0 := by
  rw [rInR_nI (n := 15) (hi := 15) ho (by decide) rfl]
  by_cases h : o < 16
  · rw [if_pos h, if_pos (by omega)]
  · rw [if_neg h, if_neg (by omega)]
theorem rInR15_t {o : Nat} (h : rInR (nI o) 0 15 = 0) (ho : o < 2 ^ 31) : ¬ o < 16 := fun h9 => by rw [rInR15 ho, if_pos h9] at h; exact absurd h (by decide)
theorem rInR15_f {o : Nat} (h : ¬ rInR (nI o) 0 15 = 0) (ho : o < 2 ^ 31) : o < 16 := by
  by_cases h9 : o < 16
  · exact h9
  · rw [rInR15 ho, if_neg h9] at h; exact absurd rfl h
theorem vpA {k o n : Nat} {x : Int32} (hx : x = nI k) (h : k + o < n) (hn : n < 2 ^ 31) : vp_in (x + nI o) n := vp_nI (nadd k o hx) h hn
def updS (s : mS) (k v : Nat) : mS := fun j => if j = k then v else s j
theorem updS_s (s : mS) (k v : Nat) : updS s k v k = v := by unfold updS; rw [if_pos rfl]
theorem updS_n (s : mS) {k j : Nat} (v : Nat) (h : j ≠ k) : updS s k v j = s j := by unfold updS; rw [if_neg h]
theorem hd53.upd {f : Nat → Int32} {s : mS} (h : hd53 f s) {x v : Int32} {k w : Nat} (hx : x = nI k) (hk : k < 2 ^ 31) (hv : v = nI w) : hd53 (upd f x.toNatClampNeg v) (updS s k w) := by
  intro j hj
  rw [cl_nI hx hk]
  by_cases e : j = k
  · subst e; rw [pk_us, updS_s, hv]
  · rw [pk_un e, updS_n s w e]; exact h j hj
def goN (s : mS) (st : Nat) : mS :=
  if st = 4 then updS (updS (updS (updS s 3 (s 3 + 1)) 2 (s (6 + s 1))) (6 + s 1) (s 2)) 4 (s 4 + 1)
  else updS (updS (updS s 3 (s 3 + 1)) 5 (s 5 + (if 0 < wyN s (s 1) st then 1 else 0))) 1 ((ldN s (s 1) st).getD 0)
theorem wyN_congr {s s1 : mS} (h : ∀ j, 22 ≤ j → s1 j = s j) (c st : Nat) : wyN s1 c st = wyN s c st := by
  unfold wyN; rw [h _ (by omega), h _ (by omega)]
theorem upN_congr {s s1 : mS} (h0 : s1 0 = s 0) (h : ∀ j, 22 ≤ j → s1 j = s j) (c : Nat) : upN s1 c = upN s c := by
  unfold upN; rw [h0, h _ (by omega), h _ (by omega)]
theorem dnN_congr {s s1 : mS} (h0 : s1 0 = s 0) (h : ∀ j, 22 ≤ j → s1 j = s j) (c : Nat) : dnN s1 c = dnN s c := by
  unfold dnN; rw [h0, h _ (by omega), h _ (by omega)]
theorem ldN_congr {s s1 : mS} (h0 : s1 0 = s 0) (h : ∀ j, 22 ≤ j → s1 j = s j) (c st : Nat) : ldN s1 c st = ldN s c st := by
  unfold ldN; rw [upN_congr h0 h, dnN_congr h0 h]
def bgnN (s : mS) : Nat → Nat × Nat × Nat × Nat
  | 0 => (s 2, if 0 < s 2 then 16 else 0, 0, 0)
  | n + 1 => if 0 < s (6 + n) ∧ (bgnN s n).1 = 0 then (s (6 + n), n, (bgnN s n).2.2.1, (bgnN s n).2.2.2) else if 0 < s (6 + n) then ((bgnN s n).1, (bgnN s n).2.1, s (6 + n), n) else bgnN s n
theorem le0_nI {b : Nat} (h : b < 2 ^ 31) : nI b ≤ 0 ↔ b = 0 := by
  have := ge_nI (a := b) (i := 0) h (by decide) rfl rfl
  rw [show (0 : Int32) = nI 0 from rfl, nI_leI h (by decide)]; omega
theorem emove : ∀ nx, nx < 16 → ∀ c, c < 16 → nI (289 * c) + 289 * (nI nx - nI c) = nI (289 * nx) := by decide +kernel
theorem emove2 {nx c o w : Nat} (h1 : nx < 16) (h2 : c < 16) : nI (emN (c, o, w)) + 289 * (nI nx - nI c) = nI (emN (nx, o, w)) := by
  have e : ∀ c, nI (emN (c, o, w)) = nI (17 * o + w) + nI (289 * c) := fun c => by rw [nI_add]; congr 1; unfold emN; simp only; omega
  rw [e c, e nx, Int32.add_assoc, emove nx h1 c h2]
/-- the reference's fields -/
abbrev mF (A : Nat → Nat) (ke ty th ap ft bo ot il : Int32) : List Value := [.ref (A 0), .ref (A 1), .ref (A 2), .int ke, .ref (A 3), .int ty, .int th, .int ap, .int ft, .ref (A 4), .ref (A 5), .ref (A 6), .ref (A 7), .ref (A 8), .ref (A 9), .int bo, .int ot, .int il]
