/-! saved states -/
def pastR (f2 : Nat → Int32) (k : Nat) (p : Nat → mS) : Prop := ∀ i, i < k → ∀ j, j < 53 → f2 (53 * i + j) = nI (p i j)
def svK (k : Nat) : Nat := if k = 6 then 6 else k + 1
def svP (s : mS) (k : Nat) (p : Nat → mS) : Nat → mS := fun i => if i + 1 = svK k then s else if k = 6 then p (i + 1) else p i
theorem pastR.save {f2 f29 f0 : Nat → Int32} {k0 : Nat} {p0 : Nat → mS} {s : mS} (hp : pastR f2 k0 p0) (h0 : hd53 f0 s) (h1 : ∀ j, j < 53 → f29 (53 * k0 + j) = f0 (0 + j)) (h2 : ∀ j, (j < 53 * k0 ∨ 53 * k0 + 53 ≤ j) → f29 j = f2 j) : pastR f29 (k0 + 1) (fun i => if i = k0 then s else p0 i) := by
  intro i hi j hj
  by_cases e : i = k0
  · subst e
    rw [h1 j hj, Nat.zero_add]
    show _ = nI ((if i = i then s else p0 i) j)
    rw [if_pos rfl]
    exact h0 j hj
  · rw [h2 _ (Or.inl (by omega))]
    show _ = nI ((if i = k0 then s else p0 i) j)
    rw [if_neg e]
    exact hp i (by omega) j hj
theorem pastR.congr {f2 : Nat → Int32} {k : Nat} {p p' : Nat → mS} (h : pastR f2 k p) (e : ∀ i, i < k → p i = p' i) : pastR f2 k p' := fun i hi j hj => by rw [← e i hi]; exact h i hi j hj
theorem svP_lt {s : mS} {k : Nat} {p : Nat → mS} (hk : k < 6) : ∀ i, i < k + 1 → (fun i => if i = k then s else p i) i = svP s k p i := by
  intro i hi
  unfold svP svK
  rw [if_neg (by omega : ¬ k = 6)]
  by_cases e : i = k
  · subst e; simp
  · have : ¬ i + 1 = k + 1 := by omega
    simp [e]
    intro h; omega
theorem svP_6 {s : mS} {p : Nat → mS} : ∀ i, i < 6 → (fun i => if i = 5 then s else (fun i => p (i + 1)) i) i = svP s 6 p i := by
  intro i hi
  unfold svP svK
  by_cases e : i = 5
  · subst e; rfl
  · simp [e]
