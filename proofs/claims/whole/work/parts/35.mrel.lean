/-! the reference's rows hold the list -/
def fsOf (Q : List bE) (c : Nat) : Int32 := match fi Q c with
  | none => -1
  | some i => nI (emN (eAt Q i).1)
def MRel (Q : List bE) (qu fr by9 fa fs : Nat → Int32) : Prop :=
  (∀ i e, Q[i]? = some e → qu i = nI (emN e.1)) ∧ (∀ i e, Q[i]? = some e → fa (emN e.1) = nI e.2.2.2 ∧ (0 < i → fr (emN e.1) = nI (emN (eAt Q e.2.2.1).1) ∧ by9 (emN e.1) = nI e.2.1)) ∧ (∀ x, x < 4624 → (∀ e ∈ Q, emN e.1 ≠ x) → fa x = -1) ∧ (∀ c, c < 16 → fs c = fsOf Q c)
theorem fsOf_none {Q : List bE} {c : Nat} (h : fi Q c = none) : fsOf Q c = -1 := by unfold fsOf; rw [h]
theorem fsOf_some {Q : List bE} {c i : Nat} (h : fi Q c = some i) : fsOf Q c = nI (emN (eAt Q i).1) := by unfold fsOf; rw [h]
theorem nI_m1 {n : Nat} (h : n < 2 ^ 31) : ¬ nI n = -1 := by
  intro h2
  have h3 := congrArg Int32.toInt h2
  rw [nI_toInt h] at h3
  have : ((-1 : Int32)).toInt = -1 := by decide
  omega
theorem bgnN_v {s : mS} : ∀ n, n ≤ 16 → ((bgnN s n).1 = 0 → (bgnN s n).2.1 = 0) ∧ ((bgnN s n).2.2.1 = 0 → (bgnN s n).2.2.2 = 0) ∧ (0 < (bgnN s n).2.2.1 → 0 < (bgnN s n).1 ∧ (bgnN s n).2.1 ≠ (bgnN s n).2.2.2) ∧ (0 < (bgnN s n).1 → (bgnN s n).2.1 < n ∨ (bgnN s n).2.1 = 16) ∧ (0 < (bgnN s n).2.2.1 → (bgnN s n).2.2.2 < n)
  | 0, _ => by
    refine ⟨fun h => ?_, fun _ => rfl, fun h => absurd h (Nat.lt_irrefl 0), fun h => Or.inr ?_, fun h => absurd h (Nat.lt_irrefl 0)⟩
    · show (if 0 < s 2 then 16 else 0) = 0
      have h2 : s 2 = 0 := h
      rw [if_neg (by omega)]
    · show (if 0 < s 2 then 16 else 0) = 16
      have h2 : 0 < s 2 := h
      rw [if_pos h2]
  | n + 1, hn => by
    obtain ⟨h1, h2, h3, h4, h5⟩ := bgnN_v (s := s) n (by omega)
    by_cases k0 : s (6 + n) = 0
    · rw [bgnN_0 k0]
      exact ⟨h1, h2, h3, fun h => by have := h4 h; omega, fun h => by have := h5 h; omega⟩
    · by_cases b0 : (bgnN s n).1 = 0
      · rw [bgnN_1 (by omega) b0]
        refine ⟨fun h => absurd h k0, h2, fun h => ?_, fun _ => Or.inl (by simp only; omega), fun h => by have := h5 h; simp only; omega⟩
        have := (h3 h).1
        omega
      · rw [bgnN_2 (by omega) b0]
        refine ⟨h1, fun h => absurd h k0, fun _ => ⟨by simp only; omega, ?_⟩, fun h => by have := h4 h; simp only; omega, fun _ => by simp only; omega⟩
        have := h4 (by omega)
        simp only
        omega
/-- the graph of a state: its two bows, its start -/
def b1S (s : mS) : Nat := (bgnN s 16).1
def b2S (s : mS) : Nat := (bgnN s 16).2.2.1
def t0S (s : mS) : bT := (s 1, (bgnN s 16).2.1, (bgnN s 16).2.2.2)
def gS (s : mS) : bT → Nat → Option bT := gM s (b1S s) (b2S s)
def vS (s : mS) : bT → Prop := vM (b1S s) (b2S s)
noncomputable def fS (s : mS) : List bE := bF (gS s) (t0S s)
theorem bS_le {s : mS} (h : mOk s) : b1S s ≤ 5 ∧ b2S s ≤ 5 ∧ (0 < b2S s → 0 < b1S s) := by
  have h1 := bgnN_le h.2.2.2.1 16 (by omega)
  have h2 := bgnN_v (s := s) 16 (by omega)
  exact ⟨h1.1, h1.2.2.1, fun h => (h2.2.2.1 h).1⟩
theorem t0_v {s : mS} (h : mOk s) : vS s (t0S s) := by
  have h1 := bgnN_le h.2.2.2.1 16 (by omega)
  have h2 := bgnN_v (s := s) 16 (by omega)
  exact ⟨h.2.2.1, h1.2.1, h1.2.2.2, h2.1, h2.2.1, fun h => (h2.2.2.1 h).2⟩
theorem gS_cl {s : mS} (h : mOk s) : ∀ t st t', vS s t → st < 5 → gS s t st = some t' → vS s t' := fun t st t' h1 _ h3 => vM_step (bS_le h).2.2 h1 h3
theorem okS {s : mS} (h : mOk s) (k : Nat) : bOk (gS s) (t0S s) (vS s) (bRun (gS s) (t0S s) k) := bOk.run (gS_cl h) (t0_v h) k
theorem lenS {s : mS} (h : mOk s) (k : Nat) : (bRun (gS s) (t0S s) k).length ≤ 4624 := (okS h k).len vM_len
theorem MRel.far {Q : List bE} {qu fr by9 fa fs : Nat → Int32} (h : MRel Q qu fr by9 fa fs) {b1 b2 : Nat} (hV : ∀ e ∈ Q, vM b1 b2 e.1) (hd : ∀ (i : Nat) (e : bE), Q[i]? = some e → e.2.2.2 < 2 ^ 30) {u : bT} (hu : vM b1 b2 u) : fa (emN u) = -1 ↔ u ∉ Q.map (·.1) := by
  constructor
  · intro h1 hm
    obtain ⟨e, he, rfl⟩ := List.mem_map.mp hm
    obtain ⟨i, hi⟩ := List.getElem?_of_mem he
    rw [(h.2.1 i e hi).1] at h1
    exact nI_m1 (by have := hd i e hi; omega) h1
  · intro h1
    refine h.2.2.1 _ (emN_lt hu) (fun e he hee => h1 ?_)
    have := emN_inj (hV e he) hu hee
    rw [← this]
    exact List.mem_map.mpr ⟨e, he, rfl⟩
theorem MRel.add {Q : List bE} {qu fr by9 fa fs : Nat → Int32} (h : MRel Q qu fr by9 fa fs) (hbe : ∀ (i : Nat) (e : bE), Q[i]? = some e → e.2.2.1 < Q.length) {b1 b2 : Nat} (hV : ∀ e ∈ Q, vM b1 b2 e.1) (hQ : Q.length < 4624) {u : bT} (hu : vM b1 b2 u) (hn : u ∉ Q.map (·.1)) {k st d : Nat} {e0 : bE} (he0 : Q[k]? = some e0) {x2 v : Int32} (hx2 : x2 = nI Q.length) (hv : v = if fs u.1 = -1 then nI (emN u) else fs u.1) :
    MRel (Q ++ [(u, st, k, d + 1)]) (upd qu x2.toNatClampNeg (nI (emN u))) (upd fr (nI (emN u)).toNatClampNeg (nI (emN e0.1))) (upd by9 (nI (emN u)).toNatClampNeg (nI st)) (upd fa (nI (emN u)).toNatClampNeg (nI d + 1)) (upd fs (nI u.1).toNatClampNeg v) := by
  obtain ⟨h1, h2, h3, h4⟩ := h
  have el := emN_lt hu
  have hc : u.1 < 16 := hu.1
  have ne : ∀ e ∈ Q, emN e.1 ≠ emN u := fun e he hee => hn (by
    have := emN_inj (hV e he) hu hee
    rw [← this]
    exact List.mem_map.mpr ⟨e, he, rfl⟩)
  rw [nI_clamp (n := emN u) (by omega), nI_clamp (n := u.1) (by omega), cl_nI hx2 (by omega)]
  refine ⟨?_, ?_, ?_, ?_⟩
  · intro i e hi
    by_cases hil : i < Q.length
    · rw [List.getElem?_append_left hil] at hi
      rw [pk_un (by omega)]
      exact h1 i e hi
    · have : i = Q.length := by
        have := (List.getElem?_eq_some_iff.mp hi).1
        simp at this; omega
      subst this
      simp at hi
      subst hi
      rw [pk_us]
  · intro i e hi
    by_cases hil : i < Q.length
    · rw [List.getElem?_append_left hil] at hi
      have hm := ne e (List.mem_of_getElem? hi)
      rw [pk_un hm, pk_un hm, pk_un hm]
      refine ⟨(h2 i e hi).1, fun h0 => ?_⟩
      have h9 := (h2 i e hi).2 h0
      refine ⟨?_, h9.2⟩
      rw [h9.1]
      by_cases hb : e.2.2.1 < Q.length
      · rw [eAt_app hb]
      · exact absurd (hbe i e hi) hb
    · have : i = Q.length := by
        have := (List.getElem?_eq_some_iff.mp hi).1
        simp at this; omega
      subst this
      simp at hi
      subst hi
      rw [pk_us, pk_us, pk_us, eAt_app (List.getElem?_eq_some_iff.mp he0).1, eAt_get he0]
      exact ⟨nI_1 d, fun _ => ⟨rfl, rfl⟩⟩
  · intro x hx hall
    have hxu : x ≠ emN u := fun e => hall (u, st, k, d + 1) (List.mem_append_right _ (List.mem_singleton.mpr rfl)) e.symm
    rw [pk_un hxu]
    exact h3 x hx (fun e he => hall e (List.mem_append_left _ he))
  · intro c hc9
    by_cases hcu : c = u.1
    · subst hcu
      rw [pk_us, hv, h4 _ hc]
      cases hq : fi Q u.1 with
      | none =>
        rw [fsOf_none hq, if_pos rfl]
        have e9 : fi (Q ++ [(u, st, k, d + 1)]) u.1 = some Q.length := by rw [fi_app1, hq, if_pos rfl]; rfl
        rw [fsOf_some e9]
        congr 1
        unfold eAt
        simp
      | some i =>
        obtain ⟨e, he, -⟩ := fi_lt hq
        have e9 : fi (Q ++ [(u, st, k, d + 1)]) u.1 = some i := by rw [fi_app1, hq]; rfl
        have hlt := emN_lt (hV e (List.mem_of_getElem? he))
        rw [fsOf_some hq, fsOf_some e9, eAt_app (List.getElem?_eq_some_iff.mp he).1, eAt_get he, if_neg (nI_m1 (by omega))]
    · rw [pk_un hcu, h4 c hc9]
      have e8 : (if u.1 = c then some Q.length else none) = none := if_neg (fun e => hcu e.symm)
      cases hq : fi Q c with
      | none =>
        have e9 : fi (Q ++ [(u, st, k, d + 1)]) c = none := by rw [fi_app1, hq, e8]; rfl
        rw [fsOf_none hq, fsOf_none e9]
      | some i =>
        obtain ⟨e, he, -⟩ := fi_lt hq
        have e9 : fi (Q ++ [(u, st, k, d + 1)]) c = some i := by rw [fi_app1, hq]; rfl
        rw [fsOf_some hq, fsOf_some e9, eAt_app (List.getElem?_eq_some_iff.mp he).1]
