/-! the buffer read from left to right: one reader for both sides -/
abbrev tQ : Type := Nat × Nat × Nat × mS × mS × mS
/-- the reader: cells, what came last (1 a key's sign, 2 a ladder's, 3 a door's), digits, keys, doors, ladders -/
def tStep (ch : Nat) (q : tQ) : Option tQ :=
  if ch = 46 then (if q.1 < 16 then some (q.1 + 1, 1, q.2.2.1, q.2.2.2.1, q.2.2.2.2.1, q.2.2.2.2.2) else none)
  else if 49 ≤ ch ∧ ch ≤ 53 then (if q.1 < 16 ∧ q.2.2.1 < 2 then some (q.1 + 1, 1, q.2.2.1 + 1, updS q.2.2.2.1 q.1 (ch - 48), q.2.2.2.2.1, q.2.2.2.2.2) else none)
  else if ch = 124 then (if q.2.1 = 1 then some (q.1, 2, q.2.2.1, q.2.2.2.1, q.2.2.2.2.1, updS q.2.2.2.2.2 (q.1 - 1) 1) else none)
  else if 97 ≤ ch ∧ ch ≤ 101 then (if (q.2.1 = 1 ∨ q.2.1 = 2) ∧ q.1 < 16 then some (q.1, 3, q.2.2.1, q.2.2.2.1, updS q.2.2.2.2.1 (q.1 - 1) (ch - 96), q.2.2.2.2.2) else none)
  else none
def z0 : mS := fun _ => 0
def tRun (tx : Nat → Nat) : Nat → Option tQ
  | 0 => some (0, 0, 0, z0, z0, z0)
  | i + 1 => match tRun tx i with
    | none => none
    | some q => tStep (tx i) q
def fe (tx : Nat → Nat) : Nat → Nat
  | 0 => 0
  | n + 1 => if fe tx n < n then fe tx n else if (tRun tx (n + 1)).isSome then n + 1 else n
theorem tStep_dot {c la dg : Nat} {kf df lf : mS} (h : c < 16) : tStep 46 (c, la, dg, kf, df, lf) = some (c + 1, 1, dg, kf, df, lf) := by
  unfold tStep; rw [if_pos rfl, if_pos h]
theorem tStep_dig {ch c la dg : Nat} {kf df lf : mS} (h1 : 49 ≤ ch) (h2 : ch ≤ 53) (h : c < 16) (hd : dg < 2) : tStep ch (c, la, dg, kf, df, lf) = some (c + 1, 1, dg + 1, updS kf c (ch - 48), df, lf) := by
  unfold tStep; rw [if_neg (by omega), if_pos ⟨h1, h2⟩, if_pos ⟨h, hd⟩]
theorem tStep_bar {c dg : Nat} {kf df lf : mS} : tStep 124 (c, 1, dg, kf, df, lf) = some (c, 2, dg, kf, df, updS lf (c - 1) 1) := by
  unfold tStep; rw [if_neg (by omega), if_neg (by omega), if_pos rfl, if_pos rfl]
theorem tStep_door {ch c la dg : Nat} {kf df lf : mS} (h1 : 97 ≤ ch) (h2 : ch ≤ 101) (hl : la = 1 ∨ la = 2) (h : c < 16) : tStep ch (c, la, dg, kf, df, lf) = some (c, 3, dg, kf, updS df (c - 1) (ch - 96), lf) := by
  unfold tStep; rw [if_neg (by omega), if_neg (by omega), if_neg (by omega), if_pos ⟨h1, h2⟩, if_pos ⟨hl, h⟩]
theorem tStep_no {ch c la dg : Nat} {kf df lf : mS} (h1 : ch = 46 → ¬ c < 16) (h2 : 49 ≤ ch → ch ≤ 53 → ¬ (c < 16 ∧ dg < 2)) (h3 : ch = 124 → ¬ la = 1) (h4 : 97 ≤ ch → ch ≤ 101 → ¬ ((la = 1 ∨ la = 2) ∧ c < 16)) : tStep ch (c, la, dg, kf, df, lf) = none := by
  unfold tStep
  by_cases a1 : ch = 46
  · rw [if_pos a1, if_neg (h1 a1)]
  · rw [if_neg a1]
    by_cases a2 : 49 ≤ ch ∧ ch ≤ 53
    · rw [if_pos a2, if_neg (h2 a2.1 a2.2)]
    · rw [if_neg a2]
      by_cases a3 : ch = 124
      · rw [if_pos a3, if_neg (h3 a3)]
      · rw [if_neg a3]
        by_cases a4 : 97 ≤ ch ∧ ch ≤ 101
        · rw [if_pos a4, if_neg (h4 a4.1 a4.2)]
        · rw [if_neg a4]
theorem tRun_s {tx : Nat → Nat} {i : Nat} {q : tQ} (h : tRun tx i = some q) : tRun tx (i + 1) = tStep (tx i) q := by rw [tRun, h]
theorem tRun_p {tx : Nat → Nat} {i : Nat} (h : (tRun tx (i + 1)).isSome = true) : (tRun tx i).isSome = true := by
  rw [tRun] at h
  cases hq : tRun tx i with
  | none => rw [hq] at h; exact h
  | some q => rfl
theorem fe_some {tx : Nat → Nat} : ∀ {n : Nat}, (tRun tx n).isSome = true → fe tx n = n
  | 0, _ => rfl
  | n + 1, h => by
    have h1 := fe_some (n := n) (tRun_p h)
    show (if _ then _ else _) = _
    rw [h1, if_neg (Nat.lt_irrefl n), if_pos h]
theorem fe_stop {tx : Nat → Nat} {i : Nat} {q : tQ} (h : tRun tx i = some q) (h0 : tStep (tx i) q = none) : ∀ m, fe tx (i + 1 + m) = i
  | 0 => by
    have h1 : fe tx i = i := fe_some (by rw [h]; rfl)
    show (if _ then _ else _) = _
    rw [h1, if_neg (Nat.lt_irrefl i), tRun_s h, h0, if_neg (by decide)]
  | m + 1 => by
    have h1 := fe_stop h h0 m
    show (if fe tx (i + 1 + m) < i + 1 + m then fe tx (i + 1 + m) else _) = _
    rw [h1, if_pos (by omega)]
theorem fe_no {tx : Nat → Nat} {i n : Nat} {q : tQ} (h : tRun tx i = some q) (h0 : tStep (tx i) q = none) (hi : i < n) : fe tx n = i := by
  have := fe_stop h h0 (n - (i + 1))
  rwa [show i + 1 + (n - (i + 1)) = n by omega] at this
theorem fe_n {tx : Nat → Nat} {n : Nat} {q : tQ} (h : tRun tx n = some q) : fe tx n = n := fe_some (by rw [h]; rfl)
/-- the state that a text tells, beside what stays -/
def tS (s : mS) (kf df lf : mS) : mS := fun j => if j = 1 ∨ j = 2 then 0 else if j < 6 then s j else if j < 22 then kf (j - 6) else if j < 37 then df (j - 22) else lf (j - 37)
theorem tS_k (s : mS) {kf df lf : mS} {c : Nat} (hc : c < 16) : tS s kf df lf (6 + c) = kf c := by
  unfold tS; rw [if_neg (by omega), if_neg (by omega), if_pos (by omega)]; congr 1; omega
theorem tS_d (s : mS) {kf df lf : mS} {c : Nat} (hc : c < 15) : tS s kf df lf (22 + c) = df c := by
  unfold tS; rw [if_neg (by omega), if_neg (by omega), if_neg (by omega), if_pos (by omega)]; congr 1; omega
theorem tS_l (s : mS) {kf df lf : mS} {c : Nat} : tS s kf df lf (37 + c) = lf c := by
  unfold tS; rw [if_neg (by omega), if_neg (by omega), if_neg (by omega), if_neg (by omega)]; congr 1; omega
theorem tS_f (s : mS) {kf df lf : mS} {j : Nat} (h : j = 0 ∨ j = 3 ∨ j = 4 ∨ j = 5) : tS s kf df lf j = s j := by
  unfold tS; rw [if_neg (by omega), if_pos (by omega)]
theorem tS_z (s : mS) {kf df lf : mS} {j : Nat} (h : j = 1 ∨ j = 2) : tS s kf df lf j = 0 := by
  unfold tS; rw [if_pos h]
def nz (kf : mS) : Nat → Nat
  | 0 => 0
  | n + 1 => nz kf n + (if 0 < kf n then 1 else 0)
theorem nz_ext {kf kg : mS} : ∀ {n : Nat}, (∀ j, j < n → kg j = kf j) → nz kg n = nz kf n
  | 0, _ => rfl
  | n + 1, h => by rw [nz, nz, nz_ext (fun j hj => h j (by omega)), h n (by omega)]
theorem kcN_tS (s : mS) {kf df lf : mS} : ∀ n, n ≤ 16 → kcN (tS s kf df lf) n = nz kf n
  | 0, _ => by rw [kcN, tS_z s (by omega), nz]; rfl
  | n + 1, h => by rw [kcN, kcN_tS s n (by omega), tS_k s (by omega), nz]
/-- what a reader's state keeps -/
def tOk (q : tQ) : Prop := q.1 ≤ 16 ∧ q.2.1 ≤ 3 ∧ (q.2.1 ≠ 0 → 1 ≤ q.1) ∧ q.2.2.1 ≤ 2 ∧ q.2.2.1 = nz q.2.2.2.1 16 ∧ (∀ j, q.1 ≤ j → q.2.2.2.1 j = 0 ∧ q.2.2.2.2.1 j = 0 ∧ q.2.2.2.2.2 j = 0) ∧ ∀ j, q.2.2.2.1 j ≤ 5 ∧ q.2.2.2.2.1 j ≤ 5 ∧ q.2.2.2.2.2 j ≤ 1
theorem nz_z : ∀ n, nz z0 n = 0
  | 0 => rfl
  | n + 1 => by rw [nz, nz_z n]; rfl
theorem nz_up {kf : mS} {c v : Nat} (hv : 0 < v) (h0 : kf c = 0) : ∀ {n : Nat}, nz (updS kf c v) n = nz kf n + (if c < n then 1 else 0)
  | 0 => by rw [nz, nz, if_neg (by omega)]
  | n + 1 => by
    rw [nz, nz, nz_up hv h0 (n := n)]
    by_cases e : n = c
    · subst e
      rw [updS_s, if_pos hv, h0, if_neg (Nat.lt_irrefl n), if_neg (Nat.lt_irrefl 0), if_pos (by omega)]
    · rw [updS_n _ _ e]
      by_cases h2 : c < n
      · rw [if_pos h2, if_pos (show c < n + 1 by omega)]; omega
      · rw [if_neg h2, if_neg (show ¬ c < n + 1 by omega)]; omega
theorem tOk_step {ch : Nat} {q q' : tQ} (h : tOk q) (hs : tStep ch q = some q') : tOk q' := by
  obtain ⟨c, la, dg, kf, df, lf⟩ := q
  obtain ⟨h1, h2, h3, h4, h5, h6, h7⟩ := h
  simp only at h1 h2 h3 h4 h5 h6 h7
  unfold tStep at hs
  split at hs
  · split at hs
    · rename_i a1 a2
      have e := Option.some.inj hs
      subst e
      simp only at a2
      exact ⟨by simp only; omega, by simp only; omega, fun _ => by simp only; omega, h4, h5, fun j hj => h6 j (by simp only at hj; omega), h7⟩
    · cases hs
  · split at hs
    · split at hs
      · rename_i a1 a2 a3
        have e := Option.some.inj hs
        subst e
        simp only at a3
        have hz := (h6 c (Nat.le_refl _)).1
        refine ⟨by simp only; omega, by simp only; omega, fun _ => by simp only; omega, by simp only; omega, ?_, fun j hj => ?_, fun j => ?_⟩
        · simp only
          rw [nz_up (by omega) hz, if_pos a3.1, h5]
        · simp only at hj ⊢
          rw [updS_n _ _ (by omega)]
          exact h6 j (by omega)
        · simp only
          refine ⟨?_, (h7 j).2⟩
          by_cases e : j = c
          · subst e; rw [updS_s]; omega
          · rw [updS_n _ _ e]; exact (h7 j).1
      · cases hs
    · split at hs
      · split at hs
        · rename_i a1 a2 a3 a4
          have e := Option.some.inj hs
          subst e
          simp only at a4
          have hc := h3 (by omega)
          refine ⟨h1, by simp only; omega, fun _ => hc, h4, h5, fun j hj => ?_, fun j => ?_⟩
          · simp only at hj ⊢
            rw [updS_n _ _ (by omega)]
            exact h6 j hj
          · simp only
            refine ⟨(h7 j).1, (h7 j).2.1, ?_⟩
            by_cases e : j = c - 1
            · subst e; rw [updS_s]; omega
            · rw [updS_n _ _ e]; exact (h7 j).2.2
        · cases hs
      · split at hs
        · split at hs
          · rename_i a1 a2 a3 a4 a5
            have e := Option.some.inj hs
            subst e
            simp only at a5
            have hc := h3 (by omega)
            refine ⟨h1, by simp only; omega, fun _ => hc, h4, h5, fun j hj => ?_, fun j => ?_⟩
            · simp only at hj ⊢
              rw [updS_n _ _ (by omega)]
              exact h6 j hj
            · simp only
              refine ⟨(h7 j).1, ?_, (h7 j).2.2⟩
              by_cases e : j = c - 1
              · subst e; rw [updS_s]; omega
              · rw [updS_n _ _ e]; exact (h7 j).2.1
          · cases hs
        · cases hs
theorem tRun_ok {tx : Nat → Nat} : ∀ {i : Nat} {q : tQ}, tRun tx i = some q → tOk q
  | 0, q, h => by
    have e := Option.some.inj h
    subst e
    exact ⟨Nat.zero_le _, Nat.zero_le _, fun h => absurd rfl h, Nat.zero_le _, (nz_z 16).symm, fun j _ => ⟨rfl, rfl, rfl⟩, fun j => ⟨Nat.zero_le _, Nat.zero_le _, Nat.zero_le _⟩⟩
  | i + 1, q, h => by
    rw [tRun] at h
    cases hq : tRun tx i with
    | none => rw [hq] at h; cases h
    | some q0 => rw [hq] at h; exact tOk_step (tRun_ok hq) h
theorem mOk_tS {s : mS} (h : mOk s) {q : tQ} (hq : tOk q) : mOk (tS s q.2.2.2.1 q.2.2.2.2.1 q.2.2.2.2.2) := by
  obtain ⟨o1, o2, o3, o4, o5, o6⟩ := h
  obtain ⟨c, la, dg, kf, df, lf⟩ := q
  obtain ⟨h1, h2, h3, h4, h5, h6, h7⟩ := hq
  simp only at h1 h2 h3 h4 h5 h6 h7 ⊢
  refine ⟨by rw [tS_f s (by omega)]; exact o1, by rw [tS_f s (by omega)]; exact o2, by rw [tS_z s (by omega)]; omega, fun a ha => ?_, fun j hj => by rw [tS_d s hj]; exact (h7 j).2.1, fun j hj => by rw [tS_l s]; exact (h7 j).2.2⟩
  unfold kAt
  split
  · rw [tS_z s (by omega)]; omega
  · rw [tS_k s (by omega)]; exact (h7 a).1
