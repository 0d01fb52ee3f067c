/-! breadth-first search as a list that grows: entries (code, step, entry before, distance); codes are triples, the first part of a code is its cell -/
abbrev bT : Type := Nat × Nat × Nat
abbrev bE : Type := bT × Nat × Nat × Nat
def bAdd (Q : List bE) (t : bT) (s b d : Nat) : List bE := if t ∈ Q.map (·.1) then Q else Q ++ [(t, s, b, d)]
def bStep (g : bT → Nat → Option bT) (Q : List bE) (k s : Nat) : List bE := match Q[k]? with
  | none => Q
  | some e => match g e.1 s with
    | none => Q
    | some t => bAdd Q t s k (e.2.2.2 + 1)
def bRow (g : bT → Nat → Option bT) (Q : List bE) (k : Nat) : Nat → List bE
  | 0 => Q
  | s + 1 => bStep g (bRow g Q k s) k s
def bRun (g : bT → Nat → Option bT) (t0 : bT) : Nat → List bE
  | 0 => [(t0, 0, 0, 0)]
  | k + 1 => bRow g (bRun g t0 k) k 5
/-- the place of the first entry in a cell -/
def fi (Q : List bE) (c : Nat) : Option Nat := Q.findIdx? (fun e => e.1.1 == c)
def eAt (Q : List bE) (i : Nat) : bE := Q.getD i ((0, 0, 0), 0, 0, 0)
def dst (Q : List bE) (i : Nat) : Nat := (eAt Q i).2.2.2
def cnt (Q : List bE) : Nat → Nat
  | 0 => 0
  | n + 1 => cnt Q n + (if (fi Q n).isSome then 1 else 0)
def lnOf (Q : List bE) (c : Nat) : Int32 := match fi Q c with
  | none => -1
  | some i => nI (dst Q i)
theorem bAdd_ext (Q : List bE) (t : bT) (s b d : Nat) : ∃ Z, bAdd Q t s b d = Q ++ Z := by
  unfold bAdd; split
  · exact ⟨[], by simp⟩
  · exact ⟨_, rfl⟩
theorem bStep_ext (g : bT → Nat → Option bT) (Q : List bE) (k s : Nat) : ∃ Z, bStep g Q k s = Q ++ Z := by
  unfold bStep
  split
  · exact ⟨[], by simp⟩
  · split
    · exact ⟨[], by simp⟩
    · exact bAdd_ext _ _ _ _ _
theorem bRow_ext (g : bT → Nat → Option bT) (Q : List bE) (k : Nat) : ∀ s, ∃ Z, bRow g Q k s = Q ++ Z
  | 0 => ⟨[], by simp [bRow]⟩
  | s + 1 => by
    obtain ⟨Z, hZ⟩ := bRow_ext g Q k s
    obtain ⟨Y, hY⟩ := bStep_ext g (bRow g Q k s) k s
    exact ⟨Z ++ Y, by rw [bRow, hY, hZ, List.append_assoc]⟩
theorem bRun_ext1 (g : bT → Nat → Option bT) (t0 : bT) (k : Nat) : ∃ Z, bRun g t0 (k + 1) = bRun g t0 k ++ Z := bRow_ext g _ k 5
theorem bRun_ext (g : bT → Nat → Option bT) (t0 : bT) (k : Nat) : ∀ m, ∃ Z, bRun g t0 (k + m) = bRun g t0 k ++ Z
  | 0 => ⟨[], by simp⟩
  | m + 1 => by
    obtain ⟨Z, hZ⟩ := bRun_ext g t0 k m
    obtain ⟨Y, hY⟩ := bRun_ext1 g t0 (k + m)
    exact ⟨Z ++ Y, by rw [show k + (m + 1) = k + m + 1 from rfl, hY, hZ, List.append_assoc]⟩
theorem bStep_out {g : bT → Nat → Option bT} {Q : List bE} {k s : Nat} (h : Q.length ≤ k) : bStep g Q k s = Q := by
  unfold bStep; rw [List.getElem?_eq_none h]
theorem bRow_out {g : bT → Nat → Option bT} {Q : List bE} {k : Nat} (h : Q.length ≤ k) : ∀ s, bRow g Q k s = Q
  | 0 => rfl
  | s + 1 => by rw [bRow, bRow_out h s, bStep_out h]
theorem bRun_out {g : bT → Nat → Option bT} {t0 : bT} {k : Nat} (h : (bRun g t0 k).length ≤ k) : ∀ m, bRun g t0 (k + m) = bRun g t0 k
  | 0 => rfl
  | m + 1 => by
    rw [show k + (m + 1) = k + m + 1 from rfl, bRun, bRun_out h m]
    exact bRow_out (by omega) 5
theorem bRun_len1 (g : bT → Nat → Option bT) (t0 : bT) (k : Nat) : 1 ≤ (bRun g t0 k).length := by
  obtain ⟨Z, hZ⟩ := bRun_ext g t0 0 k
  rw [Nat.zero_add] at hZ
  rw [hZ]; simp [bRun]
/-- what holds of every such list -/
def bOk (g : bT → Nat → Option bT) (t0 : bT) (V : bT → Prop) (Q : List bE) : Prop :=
  (Q.map (·.1)).Nodup ∧ (∀ e ∈ Q, V e.1) ∧ Q[0]? = some (t0, 0, 0, 0) ∧ ∀ i e, Q[i]? = some e → 0 < i → ∃ b, Q[e.2.2.1]? = some b ∧ e.2.2.1 < i ∧ e.2.2.2 = b.2.2.2 + 1 ∧ e.2.1 < 5 ∧ g b.1 e.2.1 = some e.1
theorem getElem?_app {α : Type} {Q Z : List α} {i : Nat} {e : α} (h : Q[i]? = some e) : (Q ++ Z)[i]? = some e := by
  rw [List.getElem?_append_left (List.getElem?_eq_some_iff.mp h).1]; exact h
theorem bOk.step {g : bT → Nat → Option bT} {t0 : bT} {V : bT → Prop} (hV : ∀ t s t', V t → s < 5 → g t s = some t' → V t') {Q : List bE} (h : bOk g t0 V Q) {k s : Nat} (hs : s < 5) : bOk g t0 V (bStep g Q k s) := by
  unfold bStep
  split
  · exact h
  · rename_i e he
    split
    · exact h
    · rename_i t ht
      unfold bAdd
      split
      · exact h
      · rename_i hn
        obtain ⟨h1, h2, h3, h4⟩ := h
        have hVe := h2 e (List.mem_of_getElem? he)
        refine ⟨?_, ?_, getElem?_app h3, ?_⟩
        · rw [List.map_append, List.nodup_append]
          refine ⟨h1, by simp, ?_⟩
          intro a ha b hb
          simp at hb
          subst hb
          exact fun hab => hn (hab ▸ ha)
        · intro e' he'
          rcases List.mem_append.mp he' with h5 | h5
          · exact h2 e' h5
          · simp at h5
            subst h5
            exact hV _ _ _ hVe hs ht
        · intro i e' hi hpos
          by_cases hl : i < Q.length
          · rw [List.getElem?_append_left hl] at hi
            obtain ⟨b, b1, b2⟩ := h4 i e' hi hpos
            exact ⟨b, getElem?_app b1, b2⟩
          · have hl2 : i = Q.length := by
              have := (List.getElem?_eq_some_iff.mp hi).1
              simp at this
              omega
            subst hl2
            simp at hi
            subst hi
            exact ⟨e, getElem?_app he, (List.getElem?_eq_some_iff.mp he).1, rfl, hs, ht⟩
theorem bOk.row {g : bT → Nat → Option bT} {t0 : bT} {V : bT → Prop} (hV : ∀ t s t', V t → s < 5 → g t s = some t' → V t') {Q : List bE} (h : bOk g t0 V Q) {k : Nat} : ∀ s, s ≤ 5 → bOk g t0 V (bRow g Q k s)
  | 0, _ => h
  | s + 1, hs => (bOk.row hV h s (by omega)).step hV (by omega)
theorem bOk.run {g : bT → Nat → Option bT} {t0 : bT} {V : bT → Prop} (hV : ∀ t s t', V t → s < 5 → g t s = some t' → V t') (h0 : V t0) : ∀ k, bOk g t0 V (bRun g t0 k)
  | 0 => ⟨by simp [bRun], by simp [bRun, h0], by simp [bRun], fun i e hi hp => by
      have := (List.getElem?_eq_some_iff.mp hi).1
      simp [bRun] at this
      omega⟩
  | k + 1 => (bOk.run hV h0 k).row hV 5 (by omega)
theorem fi_app (Q Z : List bE) (c : Nat) : fi (Q ++ Z) c = (fi Q c).or ((fi Z c).map (· + Q.length)) := by
  unfold fi; rw [List.findIdx?_append]
theorem fi_app1 (Q : List bE) (e : bE) (c : Nat) : fi (Q ++ [e]) c = (fi Q c).or (if e.1.1 = c then some Q.length else none) := by
  rw [fi_app]
  congr 1
  unfold fi
  by_cases h : e.1.1 = c
  · simp [h]
  · have : (e.1.1 == c) = false := by simp [h]
    simp [this, h]
theorem fi_lt {Q : List bE} {c i : Nat} (h : fi Q c = some i) : ∃ e, Q[i]? = some e ∧ e.1.1 = c := by
  unfold fi at h
  obtain ⟨h1, h2, -⟩ := List.findIdx?_eq_some_iff_getElem.mp h
  exact ⟨Q[i], List.getElem?_eq_getElem h1, by simpa using h2⟩
theorem eAt_get {Q : List bE} {i : Nat} {e : bE} (h : Q[i]? = some e) : eAt Q i = e := by unfold eAt; rw [List.getD_eq_getElem?_getD, h]; rfl
theorem eAt_app {Q Z : List bE} {i : Nat} (h : i < Q.length) : eAt (Q ++ Z) i = eAt Q i := by unfold eAt; rw [List.getD_eq_getElem?_getD, List.getD_eq_getElem?_getD, List.getElem?_append_left h]
theorem dst_app {Q Z : List bE} {i : Nat} (h : i < Q.length) : dst (Q ++ Z) i = dst Q i := by unfold dst; rw [eAt_app h]
theorem cnt_le (Q : List bE) : ∀ n, cnt Q n ≤ n
  | 0 => Nat.le_refl _
  | n + 1 => by have := cnt_le Q n; unfold cnt; split <;> omega
theorem cnt_all {Q : List bE} : ∀ {n}, cnt Q n = n → ∀ c, c < n → (fi Q c).isSome = true
  | 0, _, c, h => by omega
  | n + 1, h, c, hc => by
    have h1 := cnt_le Q n
    unfold cnt at h
    split at h
    · rename_i hs
      by_cases hcn : c = n
      · subst hcn; exact hs
      · exact cnt_all (n := n) (by omega) c (by omega)
    · omega
theorem cnt_same {Q R : List bE} : ∀ {n}, (∀ c, c < n → (fi R c).isSome = (fi Q c).isSome) → cnt R n = cnt Q n
  | 0, _ => rfl
  | n + 1, h => by unfold cnt; rw [cnt_same (fun c hc => h c (by omega)), h n (by omega)]
theorem cnt_new {Q : List bE} {e : bE} (h : fi Q e.1.1 = none) : ∀ n, cnt (Q ++ [e]) n = cnt Q n + (if e.1.1 < n then 1 else 0)
  | 0 => by simp [cnt]
  | n + 1 => by
    unfold cnt
    rw [cnt_new h n, fi_app1]
    by_cases hc : e.1.1 = n
    · subst hc
      rw [h]
      simp
    · have h1 : (if e.1.1 = n then some Q.length else none) = none := if_neg hc
      rw [h1]
      have h2 : (if e.1.1 < n + 1 then 1 else 0) = (if e.1.1 < n then 1 else 0) := by
        by_cases h3 : e.1.1 < n
        · rw [if_pos h3, if_pos (by omega)]
        · rw [if_neg h3, if_neg (by omega)]
      rw [h2]
      cases fi Q n <;> simp <;> omega
theorem cnt_old {Q : List bE} {e : bE} (h : (fi Q e.1.1).isSome = true) (n : Nat) : cnt (Q ++ [e]) n = cnt Q n := by
  refine cnt_same (fun c _ => ?_)
  rw [fi_app1]
  by_cases hc : e.1.1 = c
  · subst hc
    cases hq : fi Q e.1.1 with
    | none => rw [hq] at h; cases h
    | some i => simp
  · rw [if_neg hc]; cases fi Q c <;> simp
/-- the finished list -/
theorem bMax_ex : ∃ n : Nat, n = 4624 := ⟨4624, rfl⟩
noncomputable def bMax : Nat := Classical.choose bMax_ex
theorem bMax_eq : bMax = 4624 := Classical.choose_spec bMax_ex
noncomputable def bF (g : bT → Nat → Option bT) (t0 : bT) : List bE := bRun g t0 bMax
/-- when it may be left: all looked at, or all cells found -/
def bDone (Q : List bE) (k : Nat) : Prop := Q.length ≤ k ∨ cnt Q 16 = 16
theorem bF_ext {g : bT → Nat → Option bT} {t0 : bT} {k : Nat} (hk : k ≤ 4624) : ∃ Z, bF g t0 = bRun g t0 k ++ Z := by
  obtain ⟨Z, hZ⟩ := bRun_ext g t0 k (4624 - k)
  rw [show k + (4624 - k) = bMax by rw [bMax_eq]; omega] at hZ
  exact ⟨Z, hZ⟩
theorem fi_done {g : bT → Nat → Option bT} {t0 : bT} {k : Nat} (hk : k ≤ 4624) (hd : bDone (bRun g t0 k) k) {c : Nat} (hc : c < 16) : fi (bF g t0) c = fi (bRun g t0 k) c := by
  rcases hd with h | h
  · have := bRun_out h (4624 - k)
    rw [show k + (4624 - k) = bMax by rw [bMax_eq]; omega] at this
    unfold bF; rw [this]
  · obtain ⟨Z, hZ⟩ := bF_ext (g := g) (t0 := t0) hk
    rw [hZ, fi_app]
    have h2 := cnt_all h c hc
    cases hq : fi (bRun g t0 k) c with
    | none => rw [hq] at h2; cases h2
    | some i => rfl
