/-! two keys and their places; the plan's steps taken one by one -/
def KP (s : mS) (k1 k2 f g : Nat) : Prop := k1 ≤ 5 ∧ k2 ≤ 5 ∧ f ≤ 17 ∧ g ≤ 17 ∧ (k1 = 0 ↔ f = 17) ∧ (k2 = 0 ↔ g = 17) ∧ (f = g → f = 17) ∧ ∀ a, a ≤ 16 → kAt s a = bwN k1 k2 f g a
def bgR (k1 k2 f g n : Nat) : Nat × Nat × Nat × Nat :=
  if 0 < k1 ∧ (f = 16 ∨ f < n) then
    (if 0 < k2 ∧ (g = 16 ∨ g < n) then (if f = 16 ∨ (g ≠ 16 ∧ f < g) then (k1, f, k2, g) else (k2, g, k1, f)) else (k1, f, 0, 0))
  else if 0 < k2 ∧ (g = 16 ∨ g < n) then (k2, g, 0, 0) else (0, 0, 0, 0)
theorem KP.h16 {s : mS} {k1 k2 f g : Nat} (h : KP s k1 k2 f g) : s 2 = bwN k1 k2 f g 16 := by
  have := h.2.2.2.2.2.2.2 16 (Nat.le_refl _)
  unfold kAt at this
  rwa [if_pos rfl] at this
theorem KP.cell {s : mS} {k1 k2 f g : Nat} (h : KP s k1 k2 f g) {n : Nat} (hn : n < 16) : s (6 + n) = bwN k1 k2 f g n := by
  have := h.2.2.2.2.2.2.2 n (by omega)
  unfold kAt at this
  rwa [if_neg (by omega)] at this
theorem bgn_eq {s : mS} {k1 k2 f g : Nat} (h : KP s k1 k2 f g) : ∀ n, n ≤ 16 → bgnN s n = bgR k1 k2 f g n
  | 0, _ => by
    have h2 := h.h16
    obtain ⟨h1, h1', h3, h4, h5, h6, h7, -⟩ := h
    show (s 2, if 0 < s 2 then 16 else 0, 0, 0) = _
    rw [h2]
    unfold bgR bwN
    grind
  | n + 1, hn => by
    have ih := bgn_eq h n (by omega)
    have h2 := h.cell (n := n) (by omega)
    obtain ⟨h1, h1', h3, h4, h5, h6, h7, -⟩ := h
    by_cases k0 : s (6 + n) = 0
    · rw [bgnN_0 k0, ih]
      rw [h2] at k0
      unfold bgR
      unfold bwN at k0
      grind
    · by_cases b0 : (bgnN s n).1 = 0
      · rw [bgnN_1 (by omega) b0]
        rw [ih] at b0 ⊢
        rw [h2] at k0 ⊢
        unfold bgR at b0 ⊢
        unfold bwN at k0 ⊢
        grind
      · rw [bgnN_2 (by omega) b0]
        rw [ih] at b0 ⊢
        rw [h2] at k0 ⊢
        unfold bgR at b0 ⊢
        unfold bwN at k0 ⊢
        grind
theorem KP_sw {s : mS} {k1 k2 f g : Nat} (h : KP s k1 k2 f g) : ∃ sw, swOk k1 k2 (b1S s) (b2S s) sw ∧ s 1 + 16 * f + 512 * g = ecN k1 k2 sw (t0S s) := by
  have e := bgn_eq h 16 (Nat.le_refl _)
  obtain ⟨h1, h1', h3, h4, h5, h6, h7, -⟩ := h
  unfold b1S b2S t0S
  rw [e]
  by_cases z1 : k1 = 0
  · by_cases z2 : k2 = 0
    · refine ⟨false, ?_, ?_⟩
      · unfold bgR swOk; simp [z1, z2]
      · unfold bgR ecN; simp [z1, z2]; have := h5.mp z1; have := h6.mp z2; omega
    · have hg : g = 16 ∨ g < 16 := by have : ¬ g = 17 := fun e => z2 (h6.mpr e); omega
      have e9 : bgR k1 k2 f g 16 = (k2, g, 0, 0) := by unfold bgR; rw [if_neg (by omega), if_pos ⟨by omega, hg⟩]
      rw [e9]
      refine ⟨true, ?_, ?_⟩
      · unfold swOk; simp [z1]
      · unfold ecN; simp [z1, z2]; have := h5.mp z1; omega
  · have hf : f = 16 ∨ f < 16 := by have : ¬ f = 17 := fun e => z1 (h5.mpr e); omega
    by_cases z2 : k2 = 0
    · have e9 : bgR k1 k2 f g 16 = (k1, f, 0, 0) := by unfold bgR; rw [if_pos ⟨by omega, hf⟩, if_neg (by omega)]
      rw [e9]
      refine ⟨false, ?_, ?_⟩
      · unfold swOk; simp [z2]
      · unfold ecN; simp [z1, z2]; have := h6.mp z2; omega
    · have hg : g = 16 ∨ g < 16 := by have : ¬ g = 17 := fun e => z2 (h6.mpr e); omega
      by_cases o : f = 16 ∨ (g ≠ 16 ∧ f < g)
      · have e9 : bgR k1 k2 f g 16 = (k1, f, k2, g) := by unfold bgR; rw [if_pos ⟨by omega, hf⟩, if_pos ⟨by omega, hg⟩, if_pos o]
        rw [e9]
        refine ⟨false, ?_, ?_⟩
        · unfold swOk; simp
        · unfold ecN; simp [z1, z2]
      · have e9 : bgR k1 k2 f g 16 = (k2, g, k1, f) := by unfold bgR; rw [if_pos ⟨by omega, hf⟩, if_pos ⟨by omega, hg⟩, if_neg o]
        rw [e9]
        refine ⟨true, ?_, ?_⟩
        · unfold swOk; simp
        · unfold ecN; simp [z1, z2]
def inK (k f n : Nat) : Nat := if 0 < k ∧ (f = 16 ∨ f < n) then 1 else 0
theorem kc_eq {s : mS} {k1 k2 f g : Nat} (h : KP s k1 k2 f g) : ∀ n, n ≤ 16 → kcN s n = inK k1 f n + inK k2 g n
  | 0, _ => by
    have h2 := h.h16
    obtain ⟨h1, h1', h3, h4, h5, h6, h7, -⟩ := h
    unfold kcN
    rw [h2]
    unfold inK bwN
    grind
  | n + 1, hn => by
    have ih := kc_eq h n (by omega)
    have h2 := h.cell (n := n) (by omega)
    obtain ⟨h1, h1', h3, h4, h5, h6, h7, -⟩ := h
    rw [kcN, ih, h2]
    unfold inK bwN
    grind
theorem KP_kc {s : mS} {k1 k2 f g : Nat} (h : KP s k1 k2 f g) : kcN s 16 = (if k1 = 0 then 0 else 1) + (if k2 = 0 then 0 else 1) := by
  rw [kc_eq h 16 (Nat.le_refl _)]
  obtain ⟨h1, h1', h3, h4, h5, h6, h7, -⟩ := h
  unfold inK
  grind
theorem bwN_le {k1 k2 f g a : Nat} (h1 : k1 ≤ 5) (h2 : k2 ≤ 5) : bwN k1 k2 f g a ≤ 5 := by unfold bwN; split <;> (try split) <;> omega
/-- a state that stands where a triple says -/
def TR (s0 s : mS) (b1 b2 : Nat) (t : bT) : Prop := vM b1 b2 t ∧ s 1 = t.1 ∧ s 0 = s0 0 ∧ (∀ j, 22 ≤ j → s j = s0 j) ∧ ∀ a, a ≤ 16 → kAt s a = bwN b1 b2 t.2.1 t.2.2 a
theorem TR.ok {s0 s : mS} {b1 b2 : Nat} {t : bT} (h0 : mOk s0) (hb1 : b1 ≤ 5) (hb2 : b2 ≤ 5) (h : TR s0 s b1 b2 t) : mOk s := by
  obtain ⟨h1, h2, h3, h4, h5⟩ := h
  obtain ⟨o1, o2, o3, o4, o5, o6⟩ := h0
  exact ⟨by omega, by omega, by have := h1.1; omega, fun a ha => by rw [h5 a ha]; exact bwN_le hb1 hb2, fun j hj => by rw [h4 _ (by omega)]; exact o5 j hj, fun j hj => by rw [h4 _ (by omega)]; exact o6 j hj⟩
theorem TR_0 {s : mS} {k1 k2 f g : Nat} (hok : mOk s) (h : KP s k1 k2 f g) : TR s s (b1S s) (b2S s) (t0S s) := by
  refine ⟨t0_v hok, rfl, rfl, fun _ _ => rfl, fun a ha => ?_⟩
  have e := bgn_eq h 16 (Nat.le_refl _)
  obtain ⟨h1, h1', h3, h4, h5, h6, h7, h8⟩ := h
  rw [h8 a ha]
  unfold b1S b2S t0S
  rw [e]
  unfold bwN bgR
  grind
theorem TR_step {s0 s : mS} {b1 b2 : Nat} {t t' : bT} {st : Nat} (hst : st < 5) (hb : 0 < b2 → 0 < b1) (h : TR s0 s b1 b2 t) (hg : gM s0 b1 b2 t st = some t') : refN s st = 0 ∧ TR s0 (goN s st) b1 b2 t' := by
  have hv' := vM_step hb h.1 hg
  obtain ⟨h1, h2, h3, h4, h5⟩ := h
  obtain ⟨c, o, w⟩ := t
  have h2 : s 1 = c := h2
  have h5 : ∀ a, a ≤ 16 → kAt s a = bwN b1 b2 o w a := h5
  obtain ⟨v1, v2, v3, v4, v5, v6⟩ := h1
  simp only at v1 v2 v3 v4 v5 v6
  have e16 : s 2 = bwN b1 b2 o w 16 := by have := h5 16 (Nat.le_refl _); unfold kAt at this; rwa [if_pos rfl] at this
  have ec : ∀ a, a < 16 → s (6 + a) = bwN b1 b2 o w a := fun a ha => by have := h5 a (by omega); unfold kAt at this; rwa [if_neg (by omega)] at this
  unfold gM at hg
  by_cases q4 : st = 4
  · subst q4
    rw [if_pos rfl] at hg
    simp only at hg
    by_cases hm : (0 < b1 ∧ (o = c ∨ o = 16)) ∨ (0 < b2 ∧ (w = c ∨ w = 16))
    · rw [if_pos hm] at hg
      have e := Option.some.inj hg
      subst e
      have z1 := ec c v1
      have hk : ∀ a, a ≤ 16 → kAt (goN s 4) a = if a = 16 then s (6 + c) else if a = c then s 2 else s (6 + a) := by
        intro a ha
        unfold kAt goN
        rw [if_pos rfl, h2]
        by_cases a16 : a = 16
        · rw [if_pos a16, if_pos a16]
          rw [updS_n _ _ (by omega), updS_n _ _ (by omega), updS_s]
        · rw [if_neg a16, if_neg a16, updS_n _ _ (by omega)]
          by_cases ac : a = c
          · subst ac; rw [if_pos rfl, updS_s]
          · rw [if_neg ac, updS_n _ _ (by omega), updS_n _ _ (by omega), updS_n _ _ (by omega)]
      have hf : ∀ j, (j = 0 ∨ j = 1 ∨ 22 ≤ j) → goN s 4 j = s j := by
        intro j hj
        unfold goN
        rw [if_pos rfl, h2, updS_n _ _ (by omega), updS_n _ _ (by omega), updS_n _ _ (by omega), updS_n _ _ (by omega)]
      refine ⟨?_, hv', ?_, ?_, ?_, ?_⟩
      · unfold refN
        rw [if_pos rfl, h2, if_neg]
        rw [z1, e16]
        unfold bwN
        grind
      · rw [hf 1 (by omega)]; exact h2
      · rw [hf 0 (by omega)]; exact h3
      · intro j hj; rw [hf j (by omega)]; exact h4 j hj
      · intro a ha
        rw [hk a ha, z1, e16]
        by_cases a16 : a = 16
        · subst a16
          rw [if_pos rfl]
          show _ = bwN b1 b2 (mvN b1 o c) (mvN b2 w c) 16
          unfold bwN mvN
          grind
        · rw [if_neg a16, ec a (by omega)]
          show _ = bwN b1 b2 (mvN b1 o c) (mvN b2 w c) a
          unfold bwN mvN
          grind
    · rw [if_neg hm] at hg; cases hg
  · rw [if_neg q4] at hg
    have eld : ldN s c st = ldN s0 c st := ldN_congr h3 h4 c st
    have ewy : wyN s c st = wyN s0 c st := wyN_congr h4 c st
    simp only at hg
    cases hl : ldN s0 c st with
    | none => rw [hl] at hg; cases hg
    | some nx =>
      rw [hl] at hg
      simp only at hg
      by_cases hw : wyN s0 c st = 0 ∨ wyN s0 c st = hbN b1 b2 (c, o, w)
      · rw [if_pos hw] at hg
        have e := Option.some.inj hg
        subst e
        have hh : hbN b1 b2 (c, o, w) = s 2 := by
          rw [e16]
          unfold hbN bwN
          grind
        have hk : ∀ j, j ≠ 3 → j ≠ 5 → j ≠ 1 → goN s st j = s j := by
          intro j a1 a2 a3
          unfold goN
          rw [if_neg q4, updS_n _ _ a3, updS_n _ _ a2, updS_n _ _ a1]
        refine ⟨?_, hv', ?_, ?_, ?_, ?_⟩
        · unfold refN
          rw [if_neg q4, h2, eld, hl]
          show (if _ then _ else _) = 0
          rw [ewy, ← hh, if_neg]
          omega
        · unfold goN
          rw [if_neg q4, updS_s, h2, eld, hl]
          rfl
        · rw [hk 0 (by omega) (by omega) (by omega)]; exact h3
        · intro j hj; rw [hk j (by omega) (by omega) (by omega)]; exact h4 j hj
        · intro a ha
          rw [← h5 a ha]
          unfold kAt
          split
          · exact hk 2 (by omega) (by omega) (by omega)
          · exact hk _ (by omega) (by omega) (by omega)
      · rw [if_neg hw] at hg; cases hg
/-! the plan as numbers, and the states along it -/
noncomputable def plN (F : List bE) (c a : Nat) : Nat := match fi F c with
  | none => 0
  | some i => (eAt F (anc F i (dst F i - 1 - a))).2.1
noncomputable def wkS (F : List bE) (c : Nat) (s : mS) : Nat → mS
  | 0 => s
  | n + 1 => goN (wkS F c s n) (plN F c n)
theorem anc_s (F : List bE) : ∀ (m i : Nat), anc F i (m + 1) = (eAt F (anc F i m)).2.2.1
  | 0, i => rfl
  | m + 1, i => by
    show anc F (eAt F i).2.2.1 (m + 1) = (eAt F (anc F (eAt F i).2.2.1 m)).2.2.1
    exact anc_s F m _
theorem anc_d {g : bT → Nat → Option bT} {t0 : bT} {V : bT → Prop} {F : List bE} (hF : bOk g t0 V F) {i : Nat} (hi : i < F.length) : ∀ m, m ≤ dst F i → anc F i m < F.length ∧ dst F (anc F i m) + m = dst F i
  | 0, _ => ⟨hi, rfl⟩
  | m + 1, hm => by
    obtain ⟨h1, h2⟩ := anc_d hF hi m (by omega)
    have h3 := par_of hF h1 (by omega)
    rw [anc_s]
    exact ⟨by omega, by omega⟩
theorem dst_0 {g : bT → Nat → Option bT} {t0 : bT} {V : bT → Prop} {F : List bE} (hF : bOk g t0 V F) {i : Nat} (hi : i < F.length) (h0 : dst F i = 0) : i = 0 := by
  by_cases hz : i = 0
  · exact hz
  · obtain ⟨b, b1, b2, b3, -⟩ := hF.2.2.2 i F[i] (List.getElem?_eq_getElem hi) (by omega)
    unfold dst at h0
    rw [eAt_get (List.getElem?_eq_getElem hi), b3] at h0
    omega
theorem plI_plN {F : List bE} {c a i : Nat} (h : fi F c = some i) (ha : a < dst F i) : plI F c a = nI (plN F c a) := by
  rw [plI_some h, if_pos ha]
  unfold plN
  rw [h]
/-- along the plan -/
theorem wk_TR {s : mS} {k1 k2 f g : Nat} (hok : mOk s) (h : KP s k1 k2 f g) {c i : Nat} (hc : fi (fS s) c = some i) : ∀ n, n ≤ dst (fS s) i → TR s (wkS (fS s) c s n) (b1S s) (b2S s) (eAt (fS s) (anc (fS s) i (dst (fS s) i - n))).1 ∧ ∀ m, m < n → plN (fS s) c m < 5 ∧ refN (wkS (fS s) c s m) (plN (fS s) c m) = 0
  | 0, _ => by
    have hF := fS_ok hok
    have hi := fi_lt' hc
    obtain ⟨a1, a2⟩ := anc_d hF hi (dst (fS s) i) (Nat.le_refl _)
    have a3 := dst_0 hF a1 (by omega)
    refine ⟨?_, fun m hm => absurd hm (Nat.not_lt_zero m)⟩
    rw [Nat.sub_zero, a3, eAt_get hF.2.2.1]
    exact TR_0 hok h
  | n + 1, hn => by
    have hF := fS_ok hok
    have hi := fi_lt' hc
    obtain ⟨h1, h2⟩ := wk_TR hok h hc n (by omega)
    obtain ⟨a1, a2⟩ := anc_d hF hi (dst (fS s) i - (n + 1)) (by omega)
    have e9 : anc (fS s) i (dst (fS s) i - n) = (eAt (fS s) (anc (fS s) i (dst (fS s) i - (n + 1)))).2.2.1 := by
      rw [← anc_s]; congr 1; omega
    have hp : 0 < anc (fS s) i (dst (fS s) i - (n + 1)) := (par_of hF a1 (by omega)).2.2
    obtain ⟨b, b1, b2, b3, b4, b5⟩ := hF.2.2.2 _ _ (List.getElem?_eq_getElem a1) hp
    have e8 : eAt (fS s) (anc (fS s) i (dst (fS s) i - (n + 1))) = (fS s)[anc (fS s) i (dst (fS s) i - (n + 1))] := eAt_get (List.getElem?_eq_getElem a1)
    rw [← e8] at b1 b2 b3 b4 b5
    rw [e9, eAt_get b1] at h1
    have hpl : plN (fS s) c n = (eAt (fS s) (anc (fS s) i (dst (fS s) i - (n + 1)))).2.1 := by
      unfold plN
      rw [hc]
      show (eAt (fS s) (anc (fS s) i (dst (fS s) i - 1 - n))).2.1 = _
      rw [show dst (fS s) i - 1 - n = dst (fS s) i - (n + 1) by omega]
    obtain ⟨c1, c2⟩ := TR_step b4 (bS_le hok).2.2 h1 b5
    rw [← hpl] at c1 c2 b4
    refine ⟨c2, fun m hm => ?_⟩
    by_cases e : m = n
    · subst e; exact ⟨b4, c1⟩
    · exact h2 m (by omega)
