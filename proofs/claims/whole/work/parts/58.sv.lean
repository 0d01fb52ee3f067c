/-! the saved states of the landed class -/
def SvR (k : Nat) (p : Nat → mS) (nx sz : Int32) (rs rl rd : Nat → Nat → Int32) : Prop := ∃ j, j < 6 ∧ nx = nI j ∧ sz = nI k ∧ k ≤ 6 ∧ ∀ i, i < k → CRep (p i) (rs ((j + 6 - k + i) % 6)) (rl ((j + 6 - k + i) % 6)) (rd ((j + 6 - k + i) % 6))
theorem up_s {α : Type} (f : Nat → α) (j : Nat) (v : α) : va_up f j v j = v := by unfold va_up; simp
theorem up_n {α : Type} (f : Nat → α) {j i : Nat} (v : α) (h : i ≠ j) : va_up f j v i = f i := by unfold va_up; simp [h]
theorem mod6_up {j : Nat} (hj : j < 6) : nI j + 1 - (nI j + 1) / 6 * 6 = nI ((j + 1) % 6) := by
  have : ∀ j, j < 6 → nI j + 1 - (nI j + 1) / 6 * 6 = nI ((j + 1) % 6) := by decide +kernel
  exact this j hj
theorem mod6_dn {j : Nat} (hj : j < 6) : nI j + 6 - 1 - (nI j + 6 - 1) / 6 * 6 = nI ((j + 5) % 6) := by
  have : ∀ j, j < 6 → nI j + 6 - 1 - (nI j + 6 - 1) / 6 * 6 = nI ((j + 5) % 6) := by decide +kernel
  exact this j hj
theorem min6 {k : Nat} (hk : k ≤ 6) : rMin (nI k + 1) 6 = nI (svK k) := by
  have : ∀ k, k < 7 → rMin (nI k + 1) 6 = nI (svK k) := by unfold rMin svK; decide +kernel
  exact this k (by omega)
theorem svK_le (k : Nat) (hk : k ≤ 6) : svK k ≤ 6 := by unfold svK; split <;> omega
theorem SvR.push {k : Nat} {p : Nat → mS} {nx sz : Int32} {rs rl rd : Nat → Nat → Int32} (h : SvR k p nx sz rs rl rd) {s : mS} {ns lk3 ld3 : Nat → Int32} (hc : CRep s ns lk3 ld3) : ∃ j, j < 6 ∧ nx = nI j ∧ SvR (svK k) (svP s k p) (nx + 1 - (nx + 1) / 6 * 6) (rMin (sz + 1) 6) (va_up rs j ns) (va_up rl j lk3) (va_up rd j ld3) := by
  obtain ⟨j, h1, rfl, rfl, h4, h5⟩ := h
  refine ⟨j, h1, rfl, (j + 1) % 6, Nat.mod_lt _ (by omega), mod6_up h1, min6 h4, svK_le k h4, fun i hi => ?_⟩
  unfold svP
  unfold svK at hi ⊢
  by_cases k6 : k = 6
  · subst k6
    rw [if_pos rfl] at hi ⊢
    by_cases e : i + 1 = 6
    · have e9 : ((j + 1) % 6 + 6 - 6 + i) % 6 = j := by omega
      rw [if_pos e, e9, up_s, up_s, up_s]
      exact hc
    · have e9 : ((j + 1) % 6 + 6 - 6 + i) % 6 = (j + 6 - 6 + (i + 1)) % 6 := by omega
      rw [if_neg e, if_pos rfl, e9, up_n _ _ (by omega), up_n _ _ (by omega), up_n _ _ (by omega)]
      exact h5 (i + 1) (by omega)
  · rw [if_neg k6] at hi ⊢
    by_cases e : i = k
    · have e9 : ((j + 1) % 6 + 6 - (k + 1) + i) % 6 = j := by omega
      rw [if_pos (by omega), e9, up_s, up_s, up_s]
      exact hc
    · have e9 : ((j + 1) % 6 + 6 - (k + 1) + i) % 6 = (j + 6 - k + i) % 6 := by omega
      rw [if_neg (by omega), if_neg k6, e9, up_n _ _ (by omega), up_n _ _ (by omega), up_n _ _ (by omega)]
      exact h5 i (by omega)
theorem SvR.pop {k : Nat} {p : Nat → mS} {nx sz : Int32} {rs rl rd : Nat → Nat → Int32} (h : SvR k p nx sz rs rl rd) (h0 : 0 < k) : ∃ j, j < 6 ∧ nx + 6 - 1 - (nx + 6 - 1) / 6 * 6 = nI j ∧ ¬ sz = 0 ∧ CRep (p (k - 1)) (rs j) (rl j) (rd j) ∧ SvR (k - 1) p (nx + 6 - 1 - (nx + 6 - 1) / 6 * 6) (sz - 1) rs rl rd ∧ sz - 1 = nI (k - 1) := by
  obtain ⟨j, h1, rfl, rfl, h4, h5⟩ := h
  have hs1 : nI k - 1 = nI (k - 1) := by rw [show (1 : Int32) = nI 1 from rfl, pk_sub (by omega)]
  refine ⟨(j + 5) % 6, Nat.mod_lt _ (by omega), mod6_dn h1, fun e => by have := (eq_nI (a := k) (i := 0) (by omega) (by decide) rfl rfl).mp e; omega, ?_, ⟨(j + 5) % 6, Nat.mod_lt _ (by omega), mod6_dn h1, hs1, by omega, fun i hi => ?_⟩, hs1⟩
  · have := h5 (k - 1) (by omega)
    have e9 : (j + 6 - k + (k - 1)) % 6 = (j + 5) % 6 := by congr 1; omega
    rw [e9] at this
    exact this
  · have e9 : ((j + 5) % 6 + 6 - (k - 1) + i) % 6 = (j + 6 - k + i) % 6 := by omega
    rw [e9]
    exact h5 i (by omega)
