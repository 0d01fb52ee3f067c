/-! a corridor of the landed class holds a state -/
def CRep (s : mS) (ns lk ld : Nat → Int32) : Prop := mOk s ∧ (∀ j, j < 15 → lk j = nI (s (22 + j))) ∧ (∀ j, j < 16 → ld j = nI (s (37 + j))) ∧ (ns 3 = nI (s 0) ∧ ns 4 = nI (s 3) ∧ ns 5 = nI (s 4) ∧ ns 6 = nI (s 5)) ∧ ∃ k1 k2 f g, KP s k1 k2 f g ∧ ns 0 = nI k1 ∧ ns 1 = nI k2 ∧ ns 2 = nI (s 1 + 16 * f + 512 * g)
def mk7 (a b c d e f g : Int32) : Nat → Int32
  | 0 => a
  | 1 => b
  | 2 => c
  | 3 => d
  | 4 => e
  | 5 => f
  | _ => g
theorem mOk.congr {s s' : mS} (h : mOk s) (e : ∀ j, j < 53 → s j = s' j) : mOk s' := by
  obtain ⟨o1, o2, o3, o4, o5, o6⟩ := h
  refine ⟨by rw [← e 0 (by omega)]; exact o1, by rw [← e 0 (by omega)]; exact o2, by rw [← e 1 (by omega)]; exact o3, fun a ha => ?_, fun j hj => by rw [← e _ (by omega)]; exact o5 j hj, fun j hj => by rw [← e _ (by omega)]; exact o6 j hj⟩
  have := o4 a ha
  unfold kAt at this ⊢
  split
  · rename_i h9; rw [if_pos h9] at this; rw [← e 2 (by omega)]; exact this
  · rename_i h9; rw [if_neg h9] at this; rw [← e _ (by omega)]; exact this
theorem kAt_congr {s s' : mS} (e : ∀ j, j < 53 → s j = s' j) {a : Nat} (ha : a ≤ 16) : kAt s' a = kAt s a := by
  unfold kAt
  split
  · exact (e 2 (by omega)).symm
  · exact (e _ (by omega)).symm
theorem KP.congr {s s' : mS} {k1 k2 f g : Nat} (h : KP s k1 k2 f g) (e : ∀ a, a ≤ 16 → kAt s' a = kAt s a) : KP s' k1 k2 f g := by
  obtain ⟨h1, h2, h3, h4, h5, h6, h7, h8⟩ := h
  exact ⟨h1, h2, h3, h4, h5, h6, h7, fun a ha => by rw [e a ha]; exact h8 a ha⟩
theorem CRep.congr {s s' : mS} {ns lk ld : Nat → Int32} (h : CRep s ns lk ld) (e : ∀ j, j < 53 → s j = s' j) : CRep s' ns lk ld := by
  obtain ⟨h1, h2, h3, ⟨h4, h5, h6, h7⟩, k1, k2, f, g, hk, e1, e2, e3⟩ := h
  exact ⟨h1.congr e, fun j hj => by rw [← e _ (by omega)]; exact h2 j hj, fun j hj => by rw [← e _ (by omega)]; exact h3 j hj, ⟨by rw [← e 0 (by omega)]; exact h4, by rw [← e 3 (by omega)]; exact h5, by rw [← e 4 (by omega)]; exact h6, by rw [← e 5 (by omega)]; exact h7⟩, k1, k2, f, g, hk.congr (fun a ha => kAt_congr e ha), e1, e2, by rw [← e 1 (by omega)]; exact e3⟩
theorem CRep.copy {s : mS} {ns lk ld lk3 ld3 : Nat → Int32} (h : CRep s ns lk ld) (h1 : ∀ j, j < 15 → lk3 j = lk j) (h2 : ∀ j, j < 16 → ld3 j = ld j) : CRep s ns lk3 ld3 :=
  ⟨h.1, fun j hj => by rw [h1 j hj]; exact h.2.1 j hj, fun j hj => by rw [h2 j hj]; exact h.2.2.1 j hj, h.2.2.2⟩
theorem CRep.co {s : mS} {ns lk ld : Nat → Int32} (h : CRep s ns lk ld) : rCell (ns 2) = nI (s 1) := by
  obtain ⟨h1, h2, h3, -, k1, k2, f, g, hk, e1, e2, e3⟩ := h
  rw [e3, rCell_ec h1.2.2.1 hk.2.2.1 hk.2.2.2.1]
theorem CRep.bow {s : mS} {ns lk ld : Nat → Int32} (h : CRep s ns lk ld) {a : Nat} (ha : a ≤ 16) : rBow (ns 0) (ns 1) (ns 2) (nI a) = nI (kAt s a) := by
  obtain ⟨h1, h2, h3, -, k1, k2, f, g, hk, e1, e2, e3⟩ := h
  rw [e1, e2, e3, rBow_ec h1.2.2.1 hk.2.2.1 hk.2.2.2.1 (by omega), hk.2.2.2.2.2.2.2 a ha]
theorem CRep.bowc {s : mS} {ns lk ld : Nat → Int32} (h : CRep s ns lk ld) {c : Nat} (hc : c < 16) : rBow (ns 0) (ns 1) (ns 2) (nI c) = nI (s (6 + c)) := by
  rw [h.bow (by omega)]
  unfold kAt
  rw [if_neg (by omega)]
theorem CRep.hand {s : mS} {ns lk ld : Nat → Int32} (h : CRep s ns lk ld) : rBow (ns 0) (ns 1) (ns 2) 16 = nI (s 2) := by
  have := h.bow (a := 16) (Nat.le_refl _)
  unfold kAt at this
  rw [if_pos rfl] at this
  exact this
theorem z5 {n : Nat} (hn : n ≤ 5) : nI n = 0 ↔ n = 0 := eq_nI (a := n) (i := 0) (by omega) (by decide) rfl rfl
theorem CRep.keys {s : mS} {ns lk ld : Nat → Int32} (h : CRep s ns lk ld) : rKeys (ns 0) (ns 1) = nI (kcN s 16) ∧ kcN s 16 ≤ 2 := by
  obtain ⟨h1, h2, h3, -, k1, k2, f, g, hk, e1, e2, e3⟩ := h
  have z1 := z5 hk.1
  have z2 := z5 hk.2.1
  rw [KP_kc hk]
  unfold rKeys
  rw [e1, e2]
  by_cases a1 : k1 = 0 <;> by_cases a2 : k2 = 0 <;> simp only [z1, z2, a1, a2, if_true, if_false] <;> constructor <;> first | rfl | decide
theorem CRep.lock {s : mS} {ns lk ld : Nat → Int32} (h : CRep s ns lk ld) {c : Nat} (hc : c < 16) : rLock lk (nI c) = if c < 15 then nI (s (22 + c)) else 0 := by
  by_cases h15 : c < 15
  · rw [if_pos h15, rLock_nI h15, h.2.1 c h15]
  · rw [if_neg h15]
    unfold rLock
    rw [rIn_nI (n := 15) (m := 15) (by omega) (by decide) rfl, if_neg h15, if_pos rfl]
theorem CRep.lad {s : mS} {ns lk ld : Nat → Int32} (h : CRep s ns lk ld) {c : Nat} (hc : c < 16) : rLad ld (nI c) = nI (s (37 + c)) := by
  unfold rLad
  rw [rIn_nI (n := 16) (m := 16) (by omega) (by decide) rfl, if_pos hc, if_neg (by decide), nI_clamp (by omega), h.2.2.1 c hc]
theorem CRep.floor {s : mS} {ns lk ld : Nat → Int32} (h : CRep s ns lk ld) {c : Nat} (hc : c < 16) : rFloor (ns 3) (nI c) = nI (c / s 0) := by
  have h1 := h.1.1
  have h2 := h.1.2.1
  rw [h.2.2.2.1.1, rFloor_nI (by omega) (by omega) (by omega)]
theorem CRep.above {s : mS} {ns lk ld : Nat → Int32} (h : CRep s ns lk ld) {c : Nat} (hc : c < 16) : rAbove ld (ns 3) (nI c) = opI (upN s c) := by
  rw [h.2.2.2.1.1, rAbove_nI h.2.2.1 h.1.2.2.2.2.2 h.1.1 h.1.2.1 hc]
theorem CRep.below {s : mS} {ns lk ld : Nat → Int32} (h : CRep s ns lk ld) {c : Nat} (hc : c < 16) : rBelow ld (ns 3) (nI c) = opI (dnN s c) := by
  rw [h.2.2.2.1.1, rBelow_nI h.2.2.1 h.1.2.2.2.2.2 h.1.1 h.1.2.1 hc]
theorem CRep.doors {s : mS} {ns lk ld : Nat → Int32} (h : CRep s ns lk ld) : ∀ n, n ≤ 15 → rDoors lk n = nI (dcN s n)
  | 0, _ => rfl
  | n + 1, hn => by
    have h5 := h.1.2.2.2.2.1 n (by omega)
    rw [rDoors, dcN, CRep.doors h n (by omega), h.2.1 n (by omega)]
    by_cases z : s (22 + n) = 0
    · rw [if_pos ((z5 h5).mpr z), if_neg (by omega)]; rfl
    · rw [if_neg (fun e => z ((z5 h5).mp e)), if_pos (by omega), nI_1]
theorem CRep.lads {s : mS} {ns lk ld : Nat → Int32} (h : CRep s ns lk ld) : ∀ n, n ≤ 16 → rLads ld (ns 3) n = nI (lcN s n)
  | 0, _ => rfl
  | n + 1, hn => by
    rw [rLads, lcN, CRep.lads h n (by omega), h.above (by omega)]
    cases hq : upN s n with
    | none => rw [if_pos (show opI none = -1 from rfl), if_neg (by decide)]; rfl
    | some o => rw [if_neg (fun e => by have := (opI_lt (o := some o) (fun k hk => by cases hk; exact upN_lt hq)).mp e; cases this), if_pos (show (some o).isSome = true from rfl), nI_1]
theorem m1_lt : ((-1 : Int32)) < 0 := by decide
theorem m2_lt : ((-2 : Int32)) < 0 := by decide
/-- after, in the state's words -/
theorem CRep.aftv {s : mS} {ns lk ld : Nat → Int32} (h : CRep s ns lk ld) {st : Nat} (hst : st < 5) : (refN s st = 0 ∧ 0 ≤ rAft lk ld (ns 0) (ns 1) (ns 3) (ns 2) (nI st) ∧ rAft lk ld (ns 0) (ns 1) (ns 3) (ns 2) (nI st) = (if st = 4 then rSwp (ns 2) else rMov (ns 2) (opI (ldN s (s 1) st)))) ∨ (refN s st = 1 ∧ rAft lk ld (ns 0) (ns 1) (ns 3) (ns 2) (nI st) = -1) ∨ (refN s st = 2 ∧ rAft lk ld (ns 0) (ns 1) (ns 3) (ns 2) (nI st) = -2) := by
  have hh := h.hand
  have hc1 := h.1.2.2.1
  have hb := h.bowc hc1
  have hco := h.co
  have h2 : s 2 ≤ 5 := by have := h.1.2.2.2.1 16 (Nat.le_refl _); unfold kAt at this; rwa [if_pos rfl] at this
  have h6 : s (6 + s 1) ≤ 5 := by have := h.1.2.2.2.1 (s 1) (by omega); unfold kAt at this; rwa [if_neg (by omega)] at this
  by_cases q4 : st = 4
  · subst q4
    have hsw : 0 ≤ rSwp (ns 2) := by
      obtain ⟨h1, hlk, hld, -, k1, k2, f, g, hk, e1, e2, e3⟩ := h
      have l1 := swN_le hk.2.2.1 hc1
      have l2 := swN_le hk.2.2.2.1 hc1
      rw [e3, rSwp_ec hc1 hk.2.2.1 hk.2.2.2.1]
      exact nI_pos' (by omega)
    have ea : rAft lk ld (ns 0) (ns 1) (ns 3) (ns 2) (nI 4) = if nI (s 2) = 0 then (if nI (s (6 + s 1)) = 0 then -1 else rSwp (ns 2)) else rSwp (ns 2) := by
      unfold rAft
      rw [hco, hh, hb, if_pos (show nI 4 = 4 from rfl)]
    rw [ea]
    unfold refN
    rw [if_pos rfl]
    by_cases z2 : s 2 = 0
    · rw [if_pos ((z5 h2).mpr z2)]
      by_cases z6 : s (6 + s 1) = 0
      · rw [if_pos ((z5 h6).mpr z6), if_pos ⟨z2, z6⟩]
        exact Or.inr (Or.inl ⟨rfl, rfl⟩)
      · rw [if_neg (fun e => z6 ((z5 h6).mp e)), if_neg (fun e => z6 e.2)]
        exact Or.inl ⟨rfl, hsw, rfl⟩
    · rw [if_neg (fun e => z2 ((z5 h2).mp e)), if_neg (fun e => z2 e.1)]
      exact Or.inl ⟨rfl, hsw, rfl⟩
  · have ea : rAft lk ld (ns 0) (ns 1) (ns 3) (ns 2) (nI st) = if opI (ldN s (s 1) st) = -1 then -1 else if rWay lk (nI (s 1)) (nI st) = 0 then rMov (ns 2) (opI (ldN s (s 1) st)) else if rWay lk (nI (s 1)) (nI st) = nI (s 2) then rMov (ns 2) (opI (ldN s (s 1) st)) else -2 := by
      unfold rAft
      rw [hco, hh, if_neg (show ¬ nI st = 4 from fun e => q4 ((eq_nI (a := st) (i := 4) (by omega) (by decide) rfl rfl).mp e)), h.2.2.2.1.1, rTgt_nI h.2.2.1 h.1.2.2.2.2.2 h.1.1 h.1.2.1 hc1 (by omega)]
    rw [ea]
    cases hl : ldN s (s 1) st with
    | none =>
      have er : refN s st = 1 := by unfold refN; rw [if_neg q4, hl]
      exact Or.inr (Or.inl ⟨er, if_pos rfl⟩)
    | some nx =>
      have er : refN s st = if 0 < wyN s (s 1) st ∧ wyN s (s 1) st ≠ s 2 then 2 else 0 := by unfold refN; rw [if_neg q4, hl]
      have hnx := ldN_lt hc1 hl
      obtain ⟨g1, g2⟩ := gM_cases hl (by omega)
      rw [er, rWay_nI h.2.1 hc1 (by omega) g1 g2]
      have hop : ¬ opI (some nx) = -1 := fun e => by have := (opI_lt (o := some nx) (fun k hk => by cases hk; exact hnx)).mp e; cases this
      rw [if_neg hop]
      have hw5 : wyN s (s 1) st ≤ 5 := by
        unfold wyN
        split
        · exact h.1.2.2.2.2.1 _ (by have := g1 (by assumption); omega)
        · split
          · exact h.1.2.2.2.2.1 _ (by have := g2 (by assumption); omega)
          · omega
      have hmv : 0 ≤ rMov (ns 2) (opI (some nx)) := by
        obtain ⟨h1, hlk, hld, -, k1, k2, f, g, hk, e1, e2, e3⟩ := h
        have l1 := hk.2.2.1
        have l2 := hk.2.2.2.1
        rw [e3, show opI (some nx) = nI nx from rfl, rMov_ec hc1 l1 l2 hnx]
        exact nI_pos' (by omega)
      by_cases q1 : wyN s (s 1) st = 0
      · rw [if_pos ((z5 hw5).mpr q1), if_neg (show ¬ (0 < wyN s (s 1) st ∧ wyN s (s 1) st ≠ s 2) by omega)]
        exact Or.inl ⟨rfl, hmv, by rw [if_neg q4]⟩
      · rw [if_neg (fun e => q1 ((z5 hw5).mp e))]
        by_cases q2 : wyN s (s 1) st = s 2
        · rw [if_pos (show nI (wyN s (s 1) st) = nI (s 2) by rw [q2]), if_neg (show ¬ (0 < wyN s (s 1) st ∧ wyN s (s 1) st ≠ s 2) by omega)]
          exact Or.inl ⟨rfl, hmv, by rw [if_neg q4]⟩
        · rw [if_neg (fun e => q2 ((nI_eq (by omega) (by omega)).mp e)), if_pos (show 0 < wyN s (s 1) st ∧ wyN s (s 1) st ≠ s 2 by omega)]
          exact Or.inr (Or.inr ⟨rfl, rfl⟩)
theorem CRep.reas {s : mS} {ns lk ld : Nat → Int32} (h : CRep s ns lk ld) {st : Nat} (hst : st < 5) : rReas lk ld (ns 0) (ns 1) (ns 3) (ns 2) (nI st) = nI (refN s st) := by
  unfold rReas
  rcases h.aftv hst with ⟨h1, h2, -⟩ | ⟨h1, h2⟩ | ⟨h1, h2⟩
  · rw [if_pos h2, h1]; rfl
  · rw [h2, h1]; decide
  · rw [h2, h1]; decide
theorem CRep.aft0 {s : mS} {ns lk ld : Nat → Int32} (h : CRep s ns lk ld) {st : Nat} (hst : st < 5) (h0 : refN s st = 0) : 0 ≤ rAft lk ld (ns 0) (ns 1) (ns 3) (ns 2) (nI st) ∧ rAft lk ld (ns 0) (ns 1) (ns 3) (ns 2) (nI st) = (if st = 4 then rSwp (ns 2) else rMov (ns 2) (opI (ldN s (s 1) st))) := by
  rcases h.aftv hst with ⟨h1, h2⟩ | ⟨h1, h2⟩ | ⟨h1, h2⟩
  · exact h2
  · omega
  · omega
/-! the changes of a corridor -/
theorem CRep.setLock {s : mS} {ns lk ld : Nat → Int32} (h : CRep s ns lk ld) {j i : Nat} (hj : j ≤ 14) (hi : i ≤ 5) : CRep (updS s (22 + j) i) ns (rSetA lk 15 (nI j) (nI i)) ld := by
  have hok := h.1.upd (k := 22 + j) (v := i) hi (Or.inl (by omega))
  obtain ⟨h1, h2, h3, ⟨h4, h5, h6, h7⟩, k1, k2, f, g, hk, e1, e2, e3⟩ := h
  refine ⟨hok, fun a ha => ?_, fun a ha => by rw [updS_n _ _ (by omega)]; exact h3 a ha, ⟨by rw [updS_n _ _ (by omega)]; exact h4, by rw [updS_n _ _ (by omega)]; exact h5, by rw [updS_n _ _ (by omega)]; exact h6, by rw [updS_n _ _ (by omega)]; exact h7⟩, k1, k2, f, g, hk.congr (fun a ha => ?_), e1, e2, by rw [updS_n _ _ (by omega)]; exact e3⟩
  · unfold rSetA
    rw [rIn_nI (n := 15) (m := 15) (by omega) (by decide) rfl, if_pos (show j < 15 by omega), if_neg (by decide), nI_clamp (by omega)]
    by_cases e : a = j
    · subst e; rw [pk_us, updS_s]
    · rw [pk_un e, updS_n _ _ (by omega)]; exact h2 a ha
  · unfold kAt; split
    · rw [updS_n _ _ (by omega)]
    · rw [updS_n _ _ (by omega)]
theorem CRep.setLad {s : mS} {ns lk ld : Nat → Int32} (h : CRep s ns lk ld) {j i : Nat} (hj : j ≤ 15) (hi : i ≤ 1) : CRep (updS s (37 + j) i) ns lk (rSetA ld 16 (nI j) (nI i)) := by
  have hok := h.1.upd (k := 37 + j) (v := i) (by omega) (Or.inr (Or.inr (Or.inl ⟨by omega, hi⟩)))
  obtain ⟨h1, h2, h3, ⟨h4, h5, h6, h7⟩, k1, k2, f, g, hk, e1, e2, e3⟩ := h
  refine ⟨hok, fun a ha => by rw [updS_n _ _ (by omega)]; exact h2 a ha, fun a ha => ?_, ⟨by rw [updS_n _ _ (by omega)]; exact h4, by rw [updS_n _ _ (by omega)]; exact h5, by rw [updS_n _ _ (by omega)]; exact h6, by rw [updS_n _ _ (by omega)]; exact h7⟩, k1, k2, f, g, hk.congr (fun a ha => ?_), e1, e2, by rw [updS_n _ _ (by omega)]; exact e3⟩
  · unfold rSetA
    rw [rIn_nI (n := 16) (m := 16) (by omega) (by decide) rfl, if_pos (show j < 16 by omega), if_neg (by decide), nI_clamp (by omega)]
    by_cases e : a = j
    · subst e; rw [pk_us, updS_s]
    · rw [pk_un e, updS_n _ _ (by omega)]; exact h3 a ha
  · unfold kAt; split
    · rw [updS_n _ _ (by omega)]
    · rw [updS_n _ _ (by omega)]
theorem CRep.fold {s : mS} {ns lk ld : Nat → Int32} (h : CRep s ns lk ld) {v : Nat} (hv : 2 ≤ v) (hv2 : v ≤ 8) : CRep (updS s 0 v) (mk7 (ns 0) (ns 1) (ns 2) (nI v) (ns 4) (ns 5) (ns 6)) lk ld := by
  have hok := h.1.fold hv hv2
  obtain ⟨h1, h2, h3, ⟨h4, h5, h6, h7⟩, k1, k2, f, g, hk, e1, e2, e3⟩ := h
  refine ⟨hok, fun a ha => by rw [updS_n _ _ (by omega)]; exact h2 a ha, fun a ha => by rw [updS_n _ _ (by omega)]; exact h3 a ha, ⟨by rw [updS_s]; rfl, by rw [updS_n _ _ (by omega)]; exact h5, by rw [updS_n _ _ (by omega)]; exact h6, by rw [updS_n _ _ (by omega)]; exact h7⟩, k1, k2, f, g, hk.congr (fun a ha => ?_), e1, e2, by rw [updS_n _ _ (by omega)]; exact e3⟩
  unfold kAt; split
  · rw [updS_n _ _ (by omega)]
  · rw [updS_n _ _ (by omega)]
theorem CRep.stand {s : mS} {ns lk ld : Nat → Int32} (h : CRep s ns lk ld) {v : Nat} (hv : v < 16) : CRep (updS s 1 v) (mk7 (ns 0) (ns 1) (rMov (ns 2) (nI v)) (ns 3) (ns 4) (ns 5) (ns 6)) lk ld := by
  obtain ⟨h1, h2, h3, ⟨h4, h5, h6, h7⟩, k1, k2, f, g, hk, e1, e2, e3⟩ := h
  have hka : ∀ a, a ≤ 16 → kAt (updS s 1 v) a = kAt s a := fun a ha => by
    unfold kAt; split
    · rw [updS_n _ _ (by omega)]
    · rw [updS_n _ _ (by omega)]
  obtain ⟨o1, o2, o3, o4, o5, o6⟩ := h1
  refine ⟨⟨by rw [updS_n _ _ (by omega)]; exact o1, by rw [updS_n _ _ (by omega)]; exact o2, by rw [updS_s]; exact hv, fun a ha => by rw [hka a ha]; exact o4 a ha, fun j hj => by rw [updS_n _ _ (by omega)]; exact o5 j hj, fun j hj => by rw [updS_n _ _ (by omega)]; exact o6 j hj⟩, fun a ha => by rw [updS_n _ _ (by omega)]; exact h2 a ha, fun a ha => by rw [updS_n _ _ (by omega)]; exact h3 a ha, ⟨by rw [updS_n _ _ (by omega)]; exact h4, by rw [updS_n _ _ (by omega)]; exact h5, by rw [updS_n _ _ (by omega)]; exact h6, by rw [updS_n _ _ (by omega)]; exact h7⟩, k1, k2, f, g, hk.congr hka, e1, e2, ?_⟩
  show rMov (ns 2) (nI v) = _
  rw [e3, rMov_ec o3 hk.2.2.1 hk.2.2.2.1 hv, updS_s]
