/-! what the search's run wants of the corridor, and what it leaves -/
def SGh (lk ld : Nat → Int32) (fb sb le : Int32) (g : bT → Nat → Option bT) (V : bT → Prop) (ec : bT → Nat) : Prop :=
  (∀ t, V t → t.1 < 16 ∧ ec t < 16384 ∧ ec t % 16 = t.1) ∧ (∀ a b, V a → V b → ec a = ec b → a = b) ∧ (∀ L : List bT, L.Nodup → (∀ t ∈ L, V t) → L.length ≤ 4624) ∧
  (∀ t s, V t → s < 5 → g t s = none → rAft lk ld fb sb le (nI (ec t)) (nI s) < 0) ∧ (∀ t s t', V t → s < 5 → g t s = some t' → V t' ∧ rAft lk ld fb sb le (nI (ec t)) (nI s) = nI (ec t'))
def SRes (ec : bT → Nat) (F : List bE) (rc : Int32) (en nd ln : Nat → Int32) : Prop :=
  rc = nI (cnt F 16) ∧ (∀ c, c < 16 → nd c = nI ((fi F c).getD 0)) ∧ (∀ c, c < 16 → ln c = lnOf F c) ∧ ∃ N, N ≤ F.length ∧ (∀ i, i < N → en i = nI (ee ec (eAt F i))) ∧ ∀ c i, c < 16 → fi F c = some i → i < N
def Lv (Q : List bE) (k d le9 : Nat) : Prop := k ≤ le9 ∧ le9 ≤ Q.length ∧ (∀ i, k ≤ i → i < le9 → dst Q i + 1 = d) ∧ (∀ i, le9 ≤ i → i < Q.length → dst Q i = d)
theorem dst_le {g : bT → Nat → Option bT} {t0 : bT} {V : bT → Prop} {Q : List bE} (h : bOk g t0 V Q) : ∀ n i, i < n → i < Q.length → dst Q i ≤ i
  | 0, i, h1, _ => by omega
  | n + 1, i, h1, h2 => by
    by_cases h0 : i = 0
    · subst h0
      unfold dst
      rw [eAt_get h.2.2.1]
      exact Nat.le_refl _
    · obtain ⟨b, b1, b2, b3, -⟩ := h.2.2.2 i Q[i] (List.getElem?_eq_getElem h2) (by omega)
      have e1 : dst Q i = b.2.2.2 + 1 := by unfold dst; rw [eAt_get (List.getElem?_eq_getElem h2)]; exact b3
      have e2 : dst Q (Q[i]).2.2.1 = b.2.2.2 := by unfold dst; rw [eAt_get b1]
      have := dst_le h n (Q[i]).2.2.1 (by omega) (by omega)
      omega
theorem bOk.len {g : bT → Nat → Option bT} {t0 : bT} {V : bT → Prop} {Q : List bE} (h : bOk g t0 V Q) (hp : ∀ L : List bT, L.Nodup → (∀ t ∈ L, V t) → L.length ≤ 4624) : Q.length ≤ 4624 := by
  have := hp _ h.1 (fun t ht => by
    obtain ⟨e, he, rfl⟩ := List.mem_map.mp ht
    exact h.2.1 e he)
  simpa using this
theorem lnOf_none {Q : List bE} {c : Nat} (h : fi Q c = none) : lnOf Q c = -1 := by unfold lnOf; rw [h]
theorem lnOf_some {Q : List bE} {c i : Nat} (h : fi Q c = some i) : lnOf Q c = nI (dst Q i) := by unfold lnOf; rw [h]
theorem SRel.res {ec : bT → Nat} {g : bT → Nat → Option bT} {t0 : bT} {k : Nat} {sz rc : Int32} {en : Nat → Int32} {sn : Nat → Int64} {nd ln : Nat → Int32} (hk : k ≤ 4624) (h : SRel ec (bRun g t0 k) sz rc en sn nd ln) (hd : bDone (bRun g t0 k) k) : SRes ec (bF g t0) rc en nd ln := by
  obtain ⟨h1, h2, h3, h4, h5, h6⟩ := h
  obtain ⟨Z, hZ⟩ := bF_ext (g := g) (t0 := t0) hk
  have hfi : ∀ c, c < 16 → fi (bF g t0) c = fi (bRun g t0 k) c := fun c hc => fi_done hk hd hc
  generalize bF g t0 = F at hZ hfi ⊢
  refine ⟨?_, ?_, ?_, (bRun g t0 k).length, ?_, ?_, ?_⟩
  · rw [h2, cnt_same (R := F) (Q := bRun g t0 k) (n := 16) (fun c hc => by rw [hfi c hc])]
  · intro c hc; rw [hfi c hc]; exact h5 c hc
  · intro c hc
    rw [h6 c hc]
    cases hq : fi (bRun g t0 k) c with
    | none => rw [lnOf_none hq, lnOf_none ((hfi c hc).trans hq)]
    | some i =>
      obtain ⟨e, he, -⟩ := fi_lt hq
      rw [lnOf_some hq, lnOf_some ((hfi c hc).trans hq), hZ, dst_app (List.getElem?_eq_some_iff.mp he).1]
  · rw [hZ]; simp
  · intro i hi
    rw [hZ, eAt_app hi, h3 i _ (List.getElem?_eq_getElem hi), eAt_get (List.getElem?_eq_getElem hi)]
  · intro c i hc hci
    rw [hfi c hc] at hci
    obtain ⟨e, he, -⟩ := fi_lt hci
    exact (List.getElem?_eq_some_iff.mp he).1
theorem bRow_none {g : bT → Nat → Option bT} {Q : List bE} {k s : Nat} {e : bE} (he : Q[k]? = some e) (hg : g e.1 s = none) : bRow g Q k (s + 1) = bRow g Q k s := by
  obtain ⟨Z, hZ⟩ := bRow_ext g Q k s
  rw [bRow]
  unfold bStep
  rw [show (bRow g Q k s)[k]? = some e by rw [hZ]; exact getElem?_app he]
  simp [hg]
theorem bRow_some {g : bT → Nat → Option bT} {Q : List bE} {k s : Nat} {e : bE} {t : bT} (he : Q[k]? = some e) (hg : g e.1 s = some t) : bRow g Q k (s + 1) = bAdd (bRow g Q k s) t s k (e.2.2.2 + 1) := by
  obtain ⟨Z, hZ⟩ := bRow_ext g Q k s
  rw [bRow]
  unfold bStep
  rw [show (bRow g Q k s)[k]? = some e by rw [hZ]; exact getElem?_app he]
  simp [hg]
/-- one step of a row in the search's cells -/
theorem SRel.row {G : wG} {lk ld : Nat → Int32} {fb sb le : Int32} {g : bT → Nat → Option bT} {t0 : bT} {V : bT → Prop} {ec : bT → Nat} (hS : SGh lk ld fb sb le g V ec) {Q : List bE} (hok : bOk g t0 V Q) {k s : Nat} {e : bE} {u : bT} (he : Q[k]? = some e) (hs : s < 5) (hg : g e.1 s = some u) {sz rc : Int32} {en : Nat → Int32} {sn : Nat → Int64} {nd ln : Nat → Int32} (t t1 t2 t3 t4 : Nat) (h : SRel ec (bRow g Q k s) sz rc en sn nd ln) {d : Nat} (hd : e.2.2.2 + 1 = d) :
    ∃ (sz' rc' : Int32) (en' : Nat → Int32) (sn' : Nat → Int64) (nd' ln' : Nat → Int32), rAdd G t t1 t2 t3 t4 sz rc en sn nd ln (rAft lk ld fb sb le (nI (ec e.1)) (nI s)) (nI s) (nI k) (nI d) = [(t, ob 2 (sF t1 t2 t3 t4 sz' rc')), (t1, aI G 4624 en'), (t2, aJ G 256 sn'), (t3, aI G 16 nd'), (t4, aI G 16 ln')] ∧ SRel ec (bRow g Q k (s + 1)) sz' rc' en' sn' nd' ln' := by
  obtain ⟨s1, s2, s3, s4, s5⟩ := hS
  have hcl : ∀ t s t', V t → s < 5 → g t s = some t' → V t' := fun t s t' h1 h2 h3 => (s5 t s t' h1 h2 h3).1
  have hrow := hok.row hcl (k := k) s (by omega)
  have hVe : V e.1 := hok.2.1 e (List.mem_of_getElem? he)
  obtain ⟨hu, hr⟩ := s5 e.1 s u hVe hs hg
  obtain ⟨c1, c2, c3⟩ := s1 u hu
  rw [hr, bRow_some he hg, hd]
  have hl2 : (bRow g Q k s).length ≤ 4624 := hrow.len s3
  have hkl : k < Q.length := (List.getElem?_eq_some_iff.mp he).1
  have hl0 := hok.len s3
  refine SRel.add (c := 0) (V := V) t t1 t2 t3 t4 h hrow.2.1 hu s2 c1 c2 c3 hs (by omega) (fun hn => ?_) hl2 (fun i hi => by have := dst_le hrow (i + 1) i (by omega) hi; omega)
  have h9 := (hrow.step hcl (k := k) hs).len s3
  rw [← bRow, bRow_some he hg] at h9
  unfold bAdd at h9
  rw [if_neg hn] at h9
  simp at h9
  omega
