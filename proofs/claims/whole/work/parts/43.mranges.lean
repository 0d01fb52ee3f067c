/-! ranges of arguments -/
def isN (x : Int32) (n : Nat) : Prop := ∃ j, j ≤ n ∧ x = nI j
theorem rInR_t {x hi : Int32} {n : Nat} (hn : n < 2 ^ 31) (hh : hi = nI n) (h : rInR x 0 hi = 0) : ¬ isN x n := by
  rintro ⟨j, hj, rfl⟩
  rw [rInR_nI (by omega) hn hh, if_pos hj] at h
  exact absurd h (by decide)
theorem rInR_f {x hi : Int32} {n : Nat} (hn : n < 2 ^ 31) (hh : hi = nI n) (h : ¬ rInR x 0 hi = 0) : isN x n := by
  by_cases h0 : x < 0
  · exact absurd (rInR_neg h0) h
  · obtain ⟨j, hj, rfl⟩ := nI_of h0
    rw [rInR_nI hj hn hh] at h
    by_cases h1 : j ≤ n
    · exact ⟨j, h1, rfl⟩
    · rw [if_neg h1] at h; exact absurd rfl h
theorem rIn_t {x m : Int32} {n : Nat} (hn : n + 1 < 2 ^ 31) (hm : m = nI (n + 1)) (h : rIn x m = 0) : ¬ isN x n := by
  rintro ⟨j, hj, rfl⟩
  rw [rIn_nI (by omega) hn hm, if_pos (by omega)] at h
  exact absurd h (by decide)
theorem rIn_f {x m : Int32} {n : Nat} (hn : n + 1 < 2 ^ 31) (hm : m = nI (n + 1)) (h : ¬ rIn x m = 0) : isN x n := by
  by_cases h0 : x < 0
  · exact absurd (by unfold rIn; rw [if_pos h0]) h
  · obtain ⟨j, hj, rfl⟩ := nI_of h0
    rw [rIn_nI hj hn hm] at h
    by_cases h1 : j < n + 1
    · exact ⟨j, by omega, rfl⟩
    · rw [if_neg h1] at h; exact absurd rfl h
theorem rBowOk_t {x : Int32} (h : rBowOk x = 0) : ¬ isN x 5 := by
  rintro ⟨j, hj, rfl⟩
  unfold rBowOk at h
  rw [if_neg (nI_pos (by omega)), if_neg (fun h9 => by have := (lt_nI (a := 5) (i := j) (by decide) (by omega) rfl rfl).mp h9; omega)] at h
  exact absurd h (by decide)
theorem rBowOk_f {x : Int32} (h : ¬ rBowOk x = 0) : isN x 5 := by
  unfold rBowOk at h
  by_cases h0 : x < 0
  · rw [if_pos h0] at h; exact absurd rfl h
  · obtain ⟨j, hj, rfl⟩ := nI_of h0
    rw [if_neg h0] at h
    by_cases h1 : j ≤ 5
    · exact ⟨j, h1, rfl⟩
    · rw [if_pos (show 5 < nI j from (lt_nI (a := 5) (i := j) (by decide) hj rfl rfl).mpr (by omega))] at h; exact absurd rfl h
def isR (x : Int32) (a n : Nat) : Prop := ∃ j, a ≤ j ∧ j ≤ n ∧ x = nI j
theorem isR_of {x lo hi : Int32} {a n : Nat} (ha : a < 2 ^ 31) (hn : n < 2 ^ 31) (hl : lo = nI a) (hh : hi = nI n) (h1 : ¬ x < lo) (h2 : ¬ hi < x) : isR x a n := by
  subst hl; subst hh
  have h0 : ¬ x < 0 := by
    intro h
    apply h1
    rw [Int32.lt_iff_toInt_lt] at h ⊢
    rw [nI_toInt ha]
    have : (0 : Int32).toInt = 0 := by decide
    omega
  obtain ⟨j, hj, rfl⟩ := nI_of h0
  rw [nI_ltI hj ha] at h1
  rw [nI_ltI hn hj] at h2
  exact ⟨j, by omega, by omega, rfl⟩
theorem isR_lo {x lo : Int32} {a n : Nat} (ha : a < 2 ^ 31) (hn : n < 2 ^ 31) (hl : lo = nI a) (h : x < lo) : ¬ isR x a n := by
  rintro ⟨j, h1, h2, rfl⟩
  subst hl
  rw [nI_ltI (by omega) ha] at h
  omega
theorem isR_hi {x hi : Int32} {a n : Nat} (hn : n < 2 ^ 31) (hh : hi = nI n) (h : hi < x) : ¬ isR x a n := by
  rintro ⟨j, h1, h2, rfl⟩
  subst hh
  rw [nI_ltI hn (by omega)] at h
  omega
theorem rInRg_t {x lo hi : Int32} {a n : Nat} (ha : a < 2 ^ 31) (hn : n < 2 ^ 31) (hl : lo = nI a) (hh : hi = nI n) (h : rInR x lo hi = 0) : ¬ isR x a n := by
  unfold rInR at h
  split at h
  · rename_i h1; exact isR_lo ha hn hl h1
  · split at h
    · rename_i h1; exact isR_hi hn hh h1
    · exact absurd h (by decide)
theorem rInRg_f {x lo hi : Int32} {a n : Nat} (ha : a < 2 ^ 31) (hn : n < 2 ^ 31) (hl : lo = nI a) (hh : hi = nI n) (h : ¬ rInR x lo hi = 0) : isR x a n := by
  unfold rInR at h
  split at h
  · exact absurd rfl h
  · rename_i h1
    split at h
    · exact absurd rfl h
    · rename_i h2; exact isR_of ha hn hl hh h1 h2
theorem hd53_ups {f : Nat → Int32} {s : mS} (h : hd53 f s) {k w : Nat} (hk : k < 2 ^ 31) {v : Int32} (hv : v = nI w) : hd53 (upd f k v) (updS s k w) := by
  have := h.upd (k := k) (x := nI k) (v := v) rfl hk hv
  rwa [nI_clamp hk] at this
