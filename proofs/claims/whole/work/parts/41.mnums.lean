/-! the numbers that the looks answer -/
def kcN (s : mS) : Nat → Nat
  | 0 => if 0 < s 2 then 1 else 0
  | n + 1 => kcN s n + (if 0 < s (6 + n) then 1 else 0)
def dcN (s : mS) : Nat → Nat
  | 0 => 0
  | n + 1 => dcN s n + (if 0 < s (22 + n) then 1 else 0)
def lcN (s : mS) : Nat → Nat
  | 0 => 0
  | n + 1 => lcN s n + (if (upN s n).isSome then 1 else 0)
def mostI (F : List bE) : Nat → Int32
  | 0 => 0
  | n + 1 => if lnOf F n ≤ mostI F n then mostI F n else lnOf F n
def ln0 (F : List bE) (c : Nat) : Int32 := match fi F c with
  | none => 0
  | some i => nI (dst F i)
def sumI (F : List bE) : Nat → Int32
  | 0 => 0
  | n + 1 => sumI F n + ln0 F n
def sOk (s : mS) : Prop := mOk s ∧ kcN s 16 ≤ 2
theorem gt_if {v : Nat} (hv : v < 2 ^ 31) {A B : Int32} (h : ¬ nI v ≤ 0) : (if 0 < v then A else B) = A := if_pos ((gt0_nI hv).mp h)
theorem le_if {v : Nat} (hv : v < 2 ^ 31) {A B : Int32} (h : nI v ≤ 0) : (if 0 < v then A else B) = B := if_neg (by have := (le0_nI hv).mp h; omega)
theorem kcN_le (s : mS) : ∀ n, kcN s n ≤ n + 1
  | 0 => by unfold kcN; split <;> omega
  | n + 1 => by have := kcN_le s n; unfold kcN; split <;> omega
/-- the number that cell answers -/
noncomputable def ofI (s : mS) (c w : Nat) : Int32 := if w = 0 then nI (s (6 + c)) else if w = 1 then (if c < 15 then nI (s (22 + c)) else 0) else if w = 2 then nI (s (37 + c)) else if w = 3 then nI (c / s 0) else if w = 4 then opI (dnN s c) else if w = 5 then opI (upN s c) else lnOf (fS s) c
noncomputable def coI (s : mS) (k w : Nat) : Int32 := if w = 0 then nI (kcN s 16) else if w = 1 then nI (dcN s 15) else if w = 2 then nI (lcN s 16) else if w = 3 then nI (cnt (fS s) 16) else if w = 4 then mostI (fS s) 16 else if w = 5 then nI (s 0) else nI k
theorem mOk.upd {s : mS} (h : mOk s) {k v : Nat} (hv : v ≤ 5) (hk : (6 ≤ k ∧ k < 37) ∨ (k = 0 ∧ 2 ≤ v) ∨ (37 ≤ k ∧ v ≤ 1) ∨ k = 2) : mOk (updS s k v) := by
  obtain ⟨h1, h2, h3, h4, h5, h6⟩ := h
  have g : ∀ j, updS s k v j = if j = k then v else s j := fun j => rfl
  refine ⟨?_, ?_, ?_, ?_, ?_, ?_⟩
  · rw [g]; split <;> omega
  · rw [g]; split <;> omega
  · rw [g]; split <;> omega
  · intro a ha
    have := h4 a ha
    unfold kAt at this ⊢
    split
    · rename_i h9; rw [if_pos h9] at this; rw [g]; split <;> omega
    · rename_i h9; rw [if_neg h9] at this; rw [g]; split <;> omega
  · intro j hj; have := h5 j hj; rw [g]; split <;> omega
  · intro j hj; have := h6 j hj; rw [g]; split <;> omega
theorem mOk.fold {s : mS} (h : mOk s) {v : Nat} (hv : 2 ≤ v) (hv2 : v ≤ 8) : mOk (updS s 0 v) := by
  obtain ⟨h1, h2, h3, h4, h5, h6⟩ := h
  have g : ∀ j, updS s 0 v j = if j = 0 then v else s j := fun j => rfl
  refine ⟨?_, ?_, ?_, ?_, ?_, ?_⟩
  · rw [g, if_pos rfl]; exact hv
  · rw [g, if_pos rfl]; exact hv2
  · rw [g, if_neg (by decide)]; exact h3
  · intro a ha
    have := h4 a ha
    unfold kAt at this ⊢
    split
    · rename_i h9; rw [if_pos h9] at this; rw [g, if_neg (by decide)]; exact this
    · rename_i h9; rw [if_neg h9] at this; rw [g, if_neg (by omega)]; exact this
  · intro j hj; rw [g, if_neg (by omega)]; exact h5 j hj
  · intro j hj; rw [g, if_neg (by omega)]; exact h6 j hj
theorem coI0 (s : mS) (k : Nat) : coI s k 0 = nI (kcN s 16) := by simp [coI]
theorem coI1 (s : mS) (k : Nat) : coI s k 1 = nI (dcN s 15) := by simp [coI]
theorem coI2 (s : mS) (k : Nat) : coI s k 2 = nI (lcN s 16) := by simp [coI]
theorem coI3 (s : mS) (k : Nat) : coI s k 3 = nI (cnt (fS s) 16) := by simp [coI]
theorem coI4 (s : mS) (k : Nat) : coI s k 4 = mostI (fS s) 16 := by simp [coI]
theorem coI5 (s : mS) (k : Nat) : coI s k 5 = nI (s 0) := by simp [coI]
theorem coI6 (s : mS) (k : Nat) : coI s k 6 = nI k := by simp [coI]
theorem ofI0 (s : mS) (c : Nat) : ofI s c 0 = nI (s (6 + c)) := by simp [ofI]
theorem ofI1 (s : mS) (c : Nat) : ofI s c 1 = if c < 15 then nI (s (22 + c)) else 0 := by simp [ofI]
theorem ofI2 (s : mS) (c : Nat) : ofI s c 2 = nI (s (37 + c)) := by simp [ofI]
theorem ofI3 (s : mS) (c : Nat) : ofI s c 3 = nI (c / s 0) := by simp [ofI]
theorem ofI4 (s : mS) (c : Nat) : ofI s c 4 = opI (dnN s c) := by simp [ofI]
theorem ofI5 (s : mS) (c : Nat) : ofI s c 5 = opI (upN s c) := by simp [ofI]
theorem ofI6 (s : mS) (c : Nat) : ofI s c 6 = lnOf (fS s) c := by simp [ofI]
