/-! plans, read off the finished list -/
def anc (F : List bE) (i : Nat) : Nat → Nat
  | 0 => i
  | n + 1 => anc F (eAt F i).2.2.1 n
def plI (F : List bE) (c a : Nat) : Int32 := match fi F c with
  | none => -1
  | some i => if a < dst F i then nI (eAt F (anc F i (dst F i - 1 - a))).2.1 else -1
theorem plI_none {F : List bE} {c a : Nat} (h : fi F c = none) : plI F c a = -1 := by unfold plI; rw [h]
theorem plI_some {F : List bE} {c a i : Nat} (h : fi F c = some i) : plI F c a = if a < dst F i then nI (eAt F (anc F i (dst F i - 1 - a))).2.1 else -1 := by unfold plI; rw [h]
theorem fS_ok {s : mS} (h : mOk s) : bOk (gS s) (t0S s) (vS s) (fS s) := okS h bMax
theorem fS_len {s : mS} (h : mOk s) : (fS s).length ≤ 4624 := lenS h bMax
/-- an entry's parent lies one nearer -/
theorem par_of {g : bT → Nat → Option bT} {t0 : bT} {V : bT → Prop} {F : List bE} (hF : bOk g t0 V F) {i : Nat} (hi : i < F.length) (h0 : 0 < dst F i) : (eAt F i).2.2.1 < i ∧ dst F i = dst F (eAt F i).2.2.1 + 1 ∧ 0 < i := by
  have hp : 0 < i := by
    by_cases hz : 0 < i
    · exact hz
    · have : i = 0 := by omega
      subst this
      unfold dst at h0
      rw [eAt_get hF.2.2.1] at h0
      exact absurd h0 (Nat.lt_irrefl 0)
  have e1 : eAt F i = F[i] := eAt_get (List.getElem?_eq_getElem hi)
  obtain ⟨b, b1, b2, b3, -⟩ := hF.2.2.2 i F[i] (List.getElem?_eq_getElem hi) hp
  refine ⟨by rw [e1]; exact b2, ?_, hp⟩
  unfold dst
  rw [e1, b3, eAt_get b1]
theorem dst_small {s : mS} (h : mOk s) {i : Nat} (hi : i < (fS s).length) : dst (fS s) i ≤ i ∧ i < 4624 := by
  have h1 := dst_le (fS_ok h) (i + 1) i (by omega) hi
  have h2 := fS_len h
  exact ⟨h1, by omega⟩
theorem fS_v {s : mS} (h : mOk s) {i : Nat} (hi : i < (fS s).length) : vS s (eAt (fS s) i).1 := by
  rw [eAt_get (List.getElem?_eq_getElem hi)]
  exact (fS_ok h).2.1 _ (List.getElem_mem hi)
theorem MRel.atF {F : List bE} {qu fr by9 fa fs : Nat → Int32} (h : MRel F qu fr by9 fa fs) {i : Nat} (hi : i < F.length) : fa (emN (eAt F i).1) = nI (dst F i) ∧ (0 < i → fr (emN (eAt F i).1) = nI (emN (eAt F (eAt F i).2.2.1).1) ∧ by9 (emN (eAt F i).1) = nI (eAt F i).2.1) := by
  have h1 := h.2.1 i _ (List.getElem?_eq_getElem hi)
  unfold dst
  rw [eAt_get (List.getElem?_eq_getElem hi)]
  exact h1
theorem MRel.at {s : mS} (hok : mOk s) {qu fr by9 fa fs : Nat → Int32} (h : MRel (fS s) qu fr by9 fa fs) {i : Nat} (hi : i < (fS s).length) : fa (emN (eAt (fS s) i).1) = nI (dst (fS s) i) ∧ (0 < i → fr (emN (eAt (fS s) i).1) = nI (emN (eAt (fS s) (eAt (fS s) i).2.2.1).1) ∧ by9 (emN (eAt (fS s) i).1) = nI (eAt (fS s) i).2.1) := MRel.atF h hi
theorem fS_emN {s : mS} (h : mOk s) {i : Nat} (hi : i < (fS s).length) : emN (eAt (fS s) i).1 < 4624 := emN_lt (fS_v h hi)
theorem fi_lt' {F : List bE} {c i : Nat} (h : fi F c = some i) : i < F.length := by
  obtain ⟨e, he, -⟩ := fi_lt h
  exact (List.getElem?_eq_some_iff.mp he).1
abbrev mW (G : wG) (M : Nat) (A : Nat → Nat) (ke ty th ap ft bo ot il : Int32) (f0 f1 f2 f3 f4 qu fr by9 fa fs : Nat → Int32) : va_W := [(M, ob 5 (mF A ke ty th ap ft bo ot il)), (A 0, aI G 53 f0), (A 1, aI G 53 f1), (A 2, aI G 318 f2), (A 3, aI G 60 f3), (A 4, aI G 48 f4), (A 5, aI G 4624 qu), (A 6, aI G 4624 fr), (A 7, aI G 4624 by9), (A 8, aI G 4624 fa), (A 9, aI G 16 fs)]
