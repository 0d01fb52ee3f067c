/-! the reference's reckoning -/
def rInR (v lo hi : Int32) : Int32 := if v < lo then 0 else if hi < v then 0 else 1
theorem rInR_01 (v lo hi : Int32) : rInR v lo hi = 0 ∨ rInR v lo hi = 1 := by unfold rInR; split <;> (try split) <;> simp
theorem rInR_nI {k n : Nat} {hi : Int32} (hk : k < 2 ^ 31) (hn : n < 2 ^ 31) (hh : hi = nI n) : rInR (nI k) 0 hi = if k ≤ n then 1 else 0 := by
  unfold rInR
  rw [if_neg (nI_pos hk)]
  subst hh
  by_cases h : k ≤ n
  · rw [if_neg (fun h9 => by have := (nI_ltI hn hk).mp h9; omega), if_pos h]
  · rw [if_pos ((nI_ltI hn hk).mpr (by omega)), if_neg h]
theorem rInR_neg {x lo hi : Int32} (h : x < lo) : rInR x lo hi = 0 := by unfold rInR; rw [if_pos h]
theorem nadd (a c : Nat) {x : Int32} (h : x = nI a) : x + nI c = nI (a + c) := by subst h; exact nI_add a c
/-- an int array holds a state -/
def hd53 (f : Nat → Int32) (s : mS) : Prop := ∀ j, j < 53 → f j = nI (s j)
theorem hd53.at {f : Nat → Int32} {s : mS} (h : hd53 f s) {x : Int32} {j : Nat} (hx : x = nI j) (hj : j < 53) : f x.toNatClampNeg = nI (s j) := by rw [cl_nI hx (by omega)]; exact h j hj
theorem upN_lt {s : mS} {c o : Nat} (h : upN s c = some o) : o < 16 := by
  unfold upN at h; split at h
  · rename_i h1; have := Option.some.inj h; omega
  · cases h
theorem dnN_lt {s : mS} {c o : Nat} (h : dnN s c = some o) : o < 16 := by
  unfold dnN at h; split at h
  · cases h
  · split at h
    · rename_i h1; have := Option.some.inj h; omega
    · cases h
def refN (s : mS) (st : Nat) : Nat := if st = 4 then (if s 2 = 0 ∧ s (6 + s 1) = 0 then 1 else 0) else match ldN s (s 1) st with
  | none => 1
  | some _ => if 0 < wyN s (s 1) st ∧ wyN s (s 1) st ≠ s 2 then 2 else 0
theorem neg1 : ((-1 : Int32)) < 0 := by decide
theorem rInR15 {o : Nat} (ho : o < 2 ^ 31) : rInR (nI o) 0 15 = if o < 16 then 1 else 0 := by
  rw [rInR_nI (n := 15) (hi := 15) ho (by decide) rfl]
  by_cases h : o < 16
  · rw [if_pos h, if_pos (by omega)]
  · rw [if_neg h, if_neg (by omega)]
theorem rInR15_t {o : Nat} (h : rInR (nI o) 0 15 = 0) (ho : o < 2 ^ 31) : ¬ o < 16 := fun h9 => by rw [rInR15 ho, if_pos h9] at h; exact absurd h (by decide)
theorem rInR15_f {o : Nat} (h : ¬ rInR (nI o) 0 15 = 0) (ho : o < 2 ^ 31) : o < 16 := by
  by_cases h9 : o < 16
  · exact h9
  · rw [rInR15 ho, if_neg h9] at h; exact absurd rfl h
theorem vpA {k o n : Nat} {x : Int32} (hx : x = nI k) (h : k + o < n) (hn : n < 2 ^ 31) : vp_in (x + nI o) n := vp_nI (nadd k o hx) h hn
