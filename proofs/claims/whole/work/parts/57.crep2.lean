/-! keys put and steps taken in a corridor; the search's answers -/
theorem KP.put1 {s : mS} {k1 k2 f g c v : Nat} (h : KP s k1 k2 f g) (hc : c < 16) (hv : v ≤ 5) (hf : f = c ∨ (g ≠ c ∧ f = 17)) : KP (updS s (6 + c) v) v k2 (if v = 0 then 17 else c) g := by
  have hka : ∀ a, a ≤ 16 → kAt (updS s (6 + c) v) a = if a = c then v else kAt s a := by
    intro a ha
    unfold kAt
    by_cases e : a = 16
    · rw [if_pos e, updS_n _ _ (by omega), if_neg (by omega), if_pos e]
    · rw [if_neg e, if_neg e]
      by_cases e2 : a = c
      · subst e2; rw [updS_s, if_pos rfl]
      · rw [updS_n _ _ (by omega), if_neg e2]
  obtain ⟨h1, h2, h3, h4, h5, h6, h7, h8⟩ := h
  refine ⟨hv, h2, by split <;> omega, h4, by split <;> omega, h6, by split <;> omega, fun a ha => ?_⟩
  rw [hka a ha, h8 a ha]
  unfold bwN
  grind
theorem KP.put2 {s : mS} {k1 k2 f g c v : Nat} (h : KP s k1 k2 f g) (hc : c < 16) (hv : v ≤ 5) (hf : f ≠ c) (hg : g = c ∨ g = 17) : KP (updS s (6 + c) v) k1 v f (if v = 0 then 17 else c) := by
  have hka : ∀ a, a ≤ 16 → kAt (updS s (6 + c) v) a = if a = c then v else kAt s a := by
    intro a ha
    unfold kAt
    by_cases e : a = 16
    · rw [if_pos e, updS_n _ _ (by omega), if_neg (by omega), if_pos e]
    · rw [if_neg e, if_neg e]
      by_cases e2 : a = c
      · subst e2; rw [updS_s, if_pos rfl]
      · rw [updS_n _ _ (by omega), if_neg e2]
  obtain ⟨h1, h2, h3, h4, h5, h6, h7, h8⟩ := h
  refine ⟨h1, hv, h3, by split <;> omega, h5, by split <;> omega, by split <;> omega, fun a ha => ?_⟩
  rw [hka a ha, h8 a ha]
  unfold bwN
  grind
theorem rPutP_nI {c v : Nat} (hv : v ≤ 5) : rPutP (nI c) (nI v) = nI (if v = 0 then 17 else c) := by
  unfold rPutP
  by_cases e : v = 0
  · rw [if_pos ((z5 hv).mpr e), if_pos e]; rfl
  · rw [if_neg (fun h => e ((z5 hv).mp h)), if_neg e]
theorem CRep.put {s : mS} {ns lk ld : Nat → Int32} (h : CRep s ns lk ld) {c v : Nat} (hc : c < 16) (hv : v ≤ 5) (hroom : v = 0 ∨ ¬ s (6 + c) = 0 ∨ kcN s 16 < 2) (q1 q2 : Nat) : ∃ ns9, rPut q1 q2 (ns 0) (ns 1) (ns 2) (ns 3) (ns 4) (ns 5) (ns 6) (nI c) (nI v) = cR q1 q2 ns9 ∧ CRep (updS s (6 + c) v) ns9 lk ld := by
  have hok := h.1.upd (k := 6 + c) (v := v) hv (Or.inl (by omega))
  obtain ⟨h1, h2, h3, ⟨h4, h5, h6, h7⟩, k1, k2, f, g, hk, e1, e2, e3⟩ := h
  have hx := h1.2.2.1
  have hf := hk.2.2.1
  have hg := hk.2.2.2.1
  have fr : ∀ (a b d : Int32) (k1' k2' f' g' : Nat), KP (updS s (6 + c) v) k1' k2' f' g' → a = nI k1' → b = nI k2' → d = nI (s 1 + 16 * f' + 512 * g') → ∃ ns9, cF q1 q2 a b d (ns 3) (ns 4) (ns 5) (ns 6) = cR q1 q2 ns9 ∧ CRep (updS s (6 + c) v) ns9 lk ld := by
    intro a b d k1' k2' f' g' kk r1 r2 r3
    refine ⟨mk7 a b d (ns 3) (ns 4) (ns 5) (ns 6), rfl, hok, fun j hj => by rw [updS_n _ _ (by omega)]; exact h2 j hj, fun j hj => by rw [updS_n _ _ (by omega)]; exact h3 j hj, ⟨by rw [updS_n _ _ (by omega)]; exact h4, by rw [updS_n _ _ (by omega)]; exact h5, by rw [updS_n _ _ (by omega)]; exact h6, by rw [updS_n _ _ (by omega)]; exact h7⟩, k1', k2', f', g', kk, r1, r2, by rw [updS_n _ _ (by omega)]; exact r3⟩
  have i17 : ∀ n, n ≤ 17 → (nI n = 17 ↔ n = 17) := fun n hn => eq_nI (a := n) (i := 17) (by omega) (by decide) rfl rfl
  have hw : ∀ b, (if b = 0 then 17 else c) ≤ 17 := fun b => by split <;> omega
  have hwv := hw v
  unfold rPut
  rw [e1, e2, e3, rFst_ec hx hf hg, rSnd_ec hx hf hg, rCell_ec hx hf hg, rPutP_nI hv, rOf_nI hx (by omega) (by omega), rOf_nI hx (by omega) (by omega), rOf_nI hx (by omega) (by omega)]
  by_cases a1 : f = c
  · rw [if_pos (by rw [a1])]
    exact fr _ _ _ _ _ _ _ (hk.put1 hc hv (Or.inl a1)) rfl rfl rfl
  · rw [if_neg (fun e => a1 ((nI_eq (by omega) (by omega)).mp e))]
    by_cases a2 : g = c
    · rw [if_pos (by rw [a2])]
      exact fr _ _ _ _ _ _ _ (hk.put2 hc hv a1 (Or.inl a2)) rfl rfl rfl
    · rw [if_neg (fun e => a2 ((nI_eq (by omega) (by omega)).mp e))]
      by_cases a3 : f = 17
      · rw [if_pos ((i17 f hf).mpr a3)]
        exact fr _ _ _ _ _ _ _ (hk.put1 hc hv (Or.inr ⟨a2, a3⟩)) rfl rfl rfl
      · rw [if_neg (fun e => a3 ((i17 f hf).mp e))]
        by_cases a4 : g = 17
        · rw [if_pos ((i17 g hg).mpr a4)]
          exact fr _ _ _ _ _ _ _ (hk.put2 hc hv a1 (Or.inr a4)) rfl rfl rfl
        · rw [if_neg (fun e => a4 ((i17 g hg).mp e))]
          have z0 : s (6 + c) = 0 := by rw [hk.cell hc]; unfold bwN; rw [if_neg a1, if_neg a2]
          have n1 : ¬ k1 = 0 := fun e => a3 (hk.2.2.2.2.1.mp e)
          have n2 : ¬ k2 = 0 := fun e => a4 (hk.2.2.2.2.2.1.mp e)
          have k9 := KP_kc hk
          rw [if_neg n1, if_neg n2] at k9
          have v0 : v = 0 := by omega
          refine fr _ _ _ _ _ _ _ (hk.congr (fun a ha => ?_)) rfl rfl rfl
          unfold kAt
          by_cases e : a = 16
          · rw [if_pos e, if_pos e, updS_n _ _ (by omega)]
          · rw [if_neg e, if_neg e]
            by_cases e9 : a = c
            · subst e9; rw [updS_s, z0, v0]
            · rw [updS_n _ _ (by omega)]
theorem CRep.take {s : mS} {ns lk ld : Nat → Int32} (h : CRep s ns lk ld) {st : Nat} (hst : st < 5) (h0 : refN s st = 0) (q1 q2 : Nat) : ∃ ns9, rTak q1 q2 lk ld (ns 0) (ns 1) (ns 2) (ns 3) (ns 4) (ns 5) (ns 6) (nI st) = cR q1 q2 ns9 ∧ CRep (goN s st) ns9 lk ld := by
  obtain ⟨ha0, hae⟩ := h.aft0 hst h0
  have hco := h.co
  have hbc := h.bowc h.1.2.2.1
  obtain ⟨h1, h2, h3, ⟨h4, h5, h6, h7⟩, k1, k2, f, g, hk, e1, e2, e3⟩ := h
  have hx := h1.2.2.1
  have hf := hk.2.2.1
  have hg := hk.2.2.2.1
  unfold rTak
  rw [if_pos ha0, hae, hco]
  by_cases q4 : st = 4
  · subst q4
    have hw : rWay lk (nI (s 1)) (nI 4) = 0 := by unfold rWay; rw [if_neg (by decide), if_neg (by decide)]
    rw [if_pos rfl, if_pos (show nI 4 = 4 from rfl), if_pos hw, e3, rSwp_ec hx hf hg]
    have l1 := swN_le hf hx
    have l2 := swN_le hg hx
    have hg4 : ∀ j, goN s 4 j = if j = 4 then s 4 + 1 else if j = 6 + s 1 then s 2 else if j = 2 then s (6 + s 1) else if j = 3 then s 3 + 1 else s j := by
      intro j
      unfold goN
      rw [if_pos rfl]
      rfl
    have hka : ∀ a, a ≤ 16 → kAt (goN s 4) a = bwN k1 k2 (swN f (s 1)) (swN g (s 1)) a := by
      intro a ha
      have t16 := hk.h16
      have tc := hk.cell hx
      have ta : a < 16 → s (6 + a) = bwN k1 k2 f g a := fun h => hk.cell h
      obtain ⟨g1, g2, g3, g4, g5, g6, g7, g8⟩ := hk
      unfold kAt
      by_cases e : a = 16
      · rw [if_pos e, hg4, if_neg (by omega), if_neg (by omega), if_pos rfl, tc, e]
        unfold bwN swN
        grind
      · rw [if_neg e, hg4, if_neg (by omega)]
        by_cases e9 : a = s 1
        · rw [if_pos (by omega), t16, e9]
          unfold bwN swN
          grind
        · rw [if_neg (by omega), if_neg (by omega), if_neg (by omega), ta (by omega)]
          unfold bwN swN
          grind
    have hkp : KP (goN s 4) k1 k2 (swN f (s 1)) (swN g (s 1)) := by
      obtain ⟨g1, g2, g3, g4, g5, g6, g7, g8⟩ := hk
      refine ⟨g1, g2, l1, l2, ?_, ?_, ?_, hka⟩
      · unfold swN; grind
      · unfold swN; grind
      · unfold swN; grind
    have hok : mOk (goN s 4) := by
      obtain ⟨o1, o2, o3, o4, o5, o6⟩ := h1
      refine ⟨?_, ?_, ?_, fun a ha => by rw [hka a ha]; exact bwN_le hk.1 hk.2.1, fun j hj => ?_, fun j hj => ?_⟩
      · rw [hg4]; grind
      · rw [hg4]; grind
      · rw [hg4]; grind
      · rw [hg4, if_neg (by omega), if_neg (by omega), if_neg (by omega), if_neg (by omega)]; exact o5 j hj
      · rw [hg4, if_neg (by omega), if_neg (by omega), if_neg (by omega), if_neg (by omega)]; exact o6 j hj
    have hg4' : ∀ j, (j = 0 ∨ j = 1 ∨ j = 5 ∨ 22 ≤ j) → goN s 4 j = s j := fun j hj => by rw [hg4, if_neg (by omega), if_neg (by omega), if_neg (by omega), if_neg (by omega)]
    refine ⟨mk7 (ns 0) (ns 1) (nI (s 1 + 16 * swN f (s 1) + 512 * swN g (s 1))) (ns 3) (ns 4 + 1) (ns 5 + 1) (ns 6), rfl, hok, fun j hj => by rw [hg4' _ (by omega)]; exact h2 j hj, fun j hj => by rw [hg4' _ (by omega)]; exact h3 j hj, ⟨by rw [hg4' _ (by omega)]; exact h4, ?_, ?_, by rw [hg4' _ (by omega)]; exact h7⟩, k1, k2, _, _, hkp, e1, e2, by rw [hg4' 1 (by omega)]; rfl⟩
    · rw [hg4, if_neg (by omega), if_neg (by omega), if_neg (by omega), if_pos rfl]
      show ns 4 + 1 = _
      rw [h5, nI_1]
    · rw [hg4, if_pos rfl]
      show ns 5 + 1 = _
      rw [h6, nI_1]
  · have n4 : ¬ nI st = 4 := fun e => q4 ((eq_nI (a := st) (i := 4) (by omega) (by decide) rfl rfl).mp e)
    rw [if_neg q4, if_neg n4]
    cases hl : ldN s (s 1) st with
    | none =>
      unfold refN at h0
      rw [if_neg q4, hl] at h0
      exact absurd h0 (by show ¬ (1 = 0); decide)
    | some nx =>
      have hnx := ldN_lt hx hl
      obtain ⟨g1, g2⟩ := gM_cases hl (by omega)
      have hw5 : wyN s (s 1) st ≤ 5 := by
        unfold wyN
        split
        · exact h1.2.2.2.2.1 _ (by have := g1 (by assumption); omega)
        · split
          · exact h1.2.2.2.2.1 _ (by have := g2 (by assumption); omega)
          · omega
      rw [rWay_nI h2 hx (by omega) g1 g2, show opI (some nx) = nI nx from rfl, e3, rMov_ec hx hf hg hnx]
      have hgo : ∀ j, goN s st j = if j = 1 then nx else if j = 5 then s 5 + (if 0 < wyN s (s 1) st then 1 else 0) else if j = 3 then s 3 + 1 else s j := by
        intro j
        unfold goN
        rw [if_neg q4, hl]
        rfl
      have hgn : ∀ j, j ≠ 1 → j ≠ 5 → j ≠ 3 → goN s st j = s j := fun j a1 a2 a3 => by rw [hgo, if_neg a1, if_neg a2, if_neg a3]
      have hka : ∀ a, a ≤ 16 → kAt (goN s st) a = kAt s a := by
        intro a ha
        unfold kAt
        split
        · exact hgn 2 (by omega) (by omega) (by omega)
        · exact hgn _ (by omega) (by omega) (by omega)
      have hok : mOk (goN s st) := by
        obtain ⟨o1, o2, o3, o4, o5, o6⟩ := h1
        refine ⟨by rw [hgn 0 (by omega) (by omega) (by omega)]; exact o1, by rw [hgn 0 (by omega) (by omega) (by omega)]; exact o2, by rw [hgo, if_pos rfl]; exact hnx, fun a ha => by rw [hka a ha]; exact o4 a ha, fun j hj => by rw [hgn _ (by omega) (by omega) (by omega)]; exact o5 j hj, fun j hj => by rw [hgn _ (by omega) (by omega) (by omega)]; exact o6 j hj⟩
      refine ⟨mk7 (ns 0) (ns 1) (nI (nx + 16 * f + 512 * g)) (ns 3) (ns 4 + 1) (ns 5) (if nI (wyN s (s 1) st) = 0 then ns 6 else ns 6 + 1), rfl, hok, fun j hj => by rw [hgn _ (by omega) (by omega) (by omega)]; exact h2 j hj, fun j hj => by rw [hgn _ (by omega) (by omega) (by omega)]; exact h3 j hj, ⟨by rw [hgn 0 (by omega) (by omega) (by omega)]; exact h4, ?_, by rw [hgn 4 (by omega) (by omega) (by omega)]; exact h6, ?_⟩, k1, k2, f, g, hk.congr hka, e1, e2, by rw [hgo, if_pos rfl]; rfl⟩
      · have g3 : goN s st 3 = s 3 + 1 := by rw [hgo, if_neg (show ¬ (3 : Nat) = 1 by decide), if_neg (show ¬ (3 : Nat) = 5 by decide), if_pos rfl]
        rw [g3]
        show ns 4 + 1 = _
        rw [h5, nI_1]
      · have g5 : goN s st 5 = s 5 + (if 0 < wyN s (s 1) st then 1 else 0) := by rw [hgo, if_neg (show ¬ (5 : Nat) = 1 by decide), if_pos rfl]
        rw [g5]
        show (if _ then _ else _) = _
        by_cases q1 : wyN s (s 1) st = 0
        · rw [if_pos ((z5 hw5).mpr q1), if_neg (by omega), h7]; rfl
        · rw [if_neg (fun e => q1 ((z5 hw5).mp e)), if_pos (by omega), h7, nI_1]
theorem CRep.clear {s : mS} {ns lk ld lk3 ld3 : Nat → Int32} (h : CRep s ns lk ld) (a1 : ∀ j, j < 15 → lk3 j = 0) (a2 : ∀ j, j < 16 → ld3 j = 0) : CRep (tS s z0 z0 z0) (mk7 0 0 (rOf 0 17 17) (ns 3) (ns 4) (ns 5) (ns 6)) lk3 ld3 := by
  obtain ⟨h1, h2, h3, ⟨h4, h5, h6, h7⟩, -⟩ := h
  have hok : mOk (tS s z0 z0 z0) := mOk_tS (q := (0, 0, 0, z0, z0, z0)) h1 (tRun_ok (tx := z0) (i := 0) rfl)
  refine ⟨hok, fun j hj => by rw [tS_d s hj]; exact a1 j hj, fun j hj => by rw [tS_l s]; exact a2 j hj, ⟨by rw [tS_f s (by omega)]; exact h4, by rw [tS_f s (by omega)]; exact h5, by rw [tS_f s (by omega)]; exact h6, by rw [tS_f s (by omega)]; exact h7⟩, 0, 0, 17, 17, ⟨by omega, by omega, by omega, by omega, by simp, by simp, fun _ => rfl, fun a ha => ?_⟩, rfl, rfl, ?_⟩
  · unfold kAt bwN
    rw [if_neg (show ¬ 17 = a by omega), if_neg (show ¬ 17 = a by omega)]
    split
    · exact tS_z s (by omega)
    · exact tS_k s (by omega)
  · rw [tS_z s (by omega)]
    exact rOf_nI (a := 0) (b := 17) (c := 17) (by omega) (by omega) (by omega)
/-! the search over a corridor -/
theorem CRep.srch {s : mS} {ns lk ld : Nat → Int32} (h : CRep s ns lk ld) : ∃ ec : bT → Nat, SGh lk ld (ns 0) (ns 1) (ns 3) (gS s) (vS s) ec ∧ vS s (t0S s) ∧ ns 2 = nI (ec (t0S s)) := by
  have hok := h.1
  obtain ⟨h1, h2, h3, ⟨h4, h5, h6, h7⟩, k1, k2, f, g, hk, e1, e2, e3⟩ := h
  obtain ⟨sw, w1, w2⟩ := KP_sw hk
  have hb := bS_le hok
  refine ⟨ecN k1 k2 sw, ?_, t0_v hok, by rw [e3, w2]⟩
  rw [e1, e2, h4]
  exact SGh_of hok h2 h3 w1 hb.2.2 hb.1 hb.2.1
/-- what the search's cells answer -/
def SRx (s : mS) (rc : Int32) (en nd ln : Nat → Int32) : Prop := rc = nI (cnt (fS s) 16) ∧ (∀ c, c < 16 → ln c = lnOf (fS s) c) ∧ ∀ c a, c < 16 → a < 2 ^ 31 → rStepTo en nd ln (nI c) (nI a) = plI (fS s) c a
theorem fS_fields {s : mS} (h : mOk s) {i : Nat} (hi : i < (fS s).length) : (eAt (fS s) i).2.1 < 5 ∧ (eAt (fS s) i).2.2.1 < 4624 ∧ ((eAt (fS s) i).2.2.1 < i ∨ i = 0) := by
  have hF := fS_ok h
  have hl := fS_len h
  by_cases h0 : i = 0
  · subst h0
    rw [eAt_get hF.2.2.1]
    exact ⟨by show 0 < 5; omega, by show 0 < 4624; omega, Or.inr rfl⟩
  · obtain ⟨b, b1, b2, b3, b4, -⟩ := hF.2.2.2 i _ (List.getElem?_eq_getElem hi) (by omega)
    rw [eAt_get (List.getElem?_eq_getElem hi)]
    exact ⟨b4, by omega, Or.inl b2⟩
theorem SRes.plan {s : mS} (hok : mOk s) {ec : bT → Nat} (hec : ∀ t, vS s t → ec t < 16384) {rc : Int32} {en nd ln : Nat → Int32} (h : SRes ec (fS s) rc en nd ln) : SRx s rc en nd ln := by
  obtain ⟨h1, h2, h3, N, hN, h4, h5⟩ := h
  refine ⟨h1, h3, fun c a hc ha => ?_⟩
  unfold rStepTo
  rw [rIn_nI (n := 16) (m := 16) (by omega) (by decide) rfl, if_pos hc, if_neg (by decide), if_neg (nI_pos ha), nI_clamp (n := c) (by omega), h3 c hc, h2 c hc, nI_clamp (n := a) ha]
  cases hq : fi (fS s) c with
  | none =>
    rw [lnOf_none hq, plI_none hq, if_neg]
    intro e
    rw [Int32.lt_iff_toInt_lt, nI_toInt ha] at e
    have : ((-1 : Int32)).toInt = -1 := by decide
    omega
  | some i =>
    have hiN := h5 c i hc hq
    have hil : i < (fS s).length := by omega
    have hds := dst_small hok hil
    have hlt : nI a < nI (dst (fS s) i) ↔ a < dst (fS s) i := nI_ltI ha (by omega)
    rw [lnOf_some hq, plI_some hq]
    by_cases had : a < dst (fS s) i
    · rw [if_pos (hlt.mpr had), if_pos had, nI_clamp (n := dst (fS s) i) (by omega)]
      have hent : ∀ k, k < N → rEnt en (nI k) = nI (ee ec (eAt (fS s) k)) := by
        intro k hk
        have := fS_len hok
        unfold rEnt
        rw [if_neg (nI_pos (by omega)), if_neg (fun e => by have := (ge_nI (a := 4624) (i := k) (by decide) (by omega) rfl rfl).mp e; omega), nI_clamp (by omega), h4 k hk]
      have hch : ∀ m k, k < N → m ≤ dst (fS s) k → rChase en (nI (ee ec (eAt (fS s) k))) m = nI (ee ec (eAt (fS s) (anc (fS s) k m))) ∧ anc (fS s) k m < N := by
        intro m
        induction m with
        | zero => intro k hk _; exact ⟨rfl, hk⟩
        | succ m ih =>
          intro k hk hm
          have hkl : k < (fS s).length := by omega
          obtain ⟨f1, f2, f3⟩ := fS_fields hok hkl
          have hv := hec _ (fS_v hok hkl)
          have hp := par_of (fS_ok hok) hkl (by omega)
          have hbf : rBef (nI (ee ec (eAt (fS s) k))) = nI (eAt (fS s) k).2.2.1 := by
            unfold ee
            rw [rBef_nI (by omega)]
            congr 1; omega
          show rChase en (rEnt en (rBef (nI (ee ec (eAt (fS s) k))))) m = nI (ee ec (eAt (fS s) (anc (fS s) (eAt (fS s) k).2.2.1 m))) ∧ _
          rw [hbf, hent _ (by omega)]
          exact ih _ (by omega) (by omega)
      have hi9 : rEnt en (nI i) = nI (ee ec (eAt (fS s) i)) := hent i hiN
      show rStp (rChase en (rEnt en (nI i)) (dst (fS s) i - 1 - a)) = _
      rw [hi9]
      obtain ⟨c1, c2⟩ := hch (dst (fS s) i - 1 - a) i hiN (by omega)
      rw [c1]
      obtain ⟨f1, f2, f3⟩ := fS_fields hok (i := anc (fS s) i (dst (fS s) i - 1 - a)) (by omega)
      have hv := hec _ (fS_v hok (i := anc (fS s) i (dst (fS s) i - 1 - a)) (by omega))
      unfold ee
      rw [rStp_nI (by omega)]
      congr 1; omega
    · rw [if_neg (fun e => had (hlt.mp e)), if_neg had]
theorem SRx.most {s : mS} {rc : Int32} {en nd ln : Nat → Int32} (h : SRx s rc en nd ln) : ∀ n, n ≤ 16 → rMost ln n = mostI (fS s) n
  | 0, _ => rfl
  | n + 1, hn => by
    rw [rMost, mostI, SRx.most h n (by omega), h.2.1 n (by omega)]
    unfold rMax
    by_cases e : lnOf (fS s) n ≤ mostI (fS s) n
    · rw [if_pos e, if_neg (Int32.not_lt.mpr e)]
    · rw [if_neg e, if_pos (Int32.not_le.mp e)]
theorem SRx.sum {s : mS} (hok : mOk s) {rc : Int32} {en nd ln : Nat → Int32} (h : SRx s rc en nd ln) : ∀ n, n ≤ 16 → rSum ln n = sumI (fS s) n
  | 0, _ => rfl
  | n + 1, hn => by
    rw [rSum, sumI, SRx.sum hok h n (by omega), h.2.1 n (by omega)]
    congr 1
    unfold rMax ln0
    cases hq : fi (fS s) n with
    | none => rw [lnOf_none hq, if_neg (by decide)]
    | some i =>
      have hds := dst_small hok (fi_lt' hq)
      rw [lnOf_some hq]
      show (if (0 : Int32) < nI (dst (fS s) i) then nI (dst (fS s) i) else 0) = nI (dst (fS s) i)
      by_cases e : dst (fS s) i = 0
      · rw [e]; rfl
      · exact if_pos ((lt_nI (a := 0) (i := dst (fS s) i) (x := 0) (y := nI (dst (fS s) i)) (by decide) (by omega) rfl rfl).mpr (by omega))
