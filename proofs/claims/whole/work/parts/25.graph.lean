/-! the landed class's steps are the graph's -/
theorem bw_hand {b1 b2 k1 k2 : Nat} {sw : Bool} (hsw : swOk k1 k2 b1 b2 sw) {t : bT} (h : vM b1 b2 t) : bwN k1 k2 (if k1 = 0 then 17 else if sw then t.2.2 else t.2.1) (if k2 = 0 then 17 else if sw then t.2.1 else t.2.2) 16 = hbN b1 b2 t := by
  obtain ⟨h1, h2, h3, h4, h5, h6⟩ := h
  obtain ⟨c, o, w⟩ := t
  unfold swOk at hsw
  unfold bwN hbN
  cases sw <;> simp at hsw h1 h2 h3 h4 h5 h6 ⊢ <;> grind
theorem bw_none {b1 b2 k1 k2 : Nat} {sw : Bool} (hsw : swOk k1 k2 b1 b2 sw) {t : bT} (h : vM b1 b2 t) : (bwN k1 k2 (if k1 = 0 then 17 else if sw then t.2.2 else t.2.1) (if k2 = 0 then 17 else if sw then t.2.1 else t.2.2) 16 = 0 ∧ bwN k1 k2 (if k1 = 0 then 17 else if sw then t.2.2 else t.2.1) (if k2 = 0 then 17 else if sw then t.2.1 else t.2.2) t.1 = 0) ↔ ¬ ((0 < b1 ∧ (t.2.1 = t.1 ∨ t.2.1 = 16)) ∨ (0 < b2 ∧ (t.2.2 = t.1 ∨ t.2.2 = 16))) := by
  obtain ⟨h1, h2, h3, h4, h5, h6⟩ := h
  obtain ⟨c, o, w⟩ := t
  unfold swOk at hsw
  unfold bwN
  cases sw <;> simp at hsw h1 h2 h3 h4 h5 h6 ⊢ <;> grind
theorem sw_ec {b1 b2 k1 k2 : Nat} {sw : Bool} (hsw : swOk k1 k2 b1 b2 sw) {t : bT} (h : vM b1 b2 t) : t.1 + 16 * swN (if k1 = 0 then 17 else if sw then t.2.2 else t.2.1) t.1 + 512 * swN (if k2 = 0 then 17 else if sw then t.2.1 else t.2.2) t.1 = ecN k1 k2 sw (t.1, mvN b1 t.2.1 t.1, mvN b2 t.2.2 t.1) := by
  obtain ⟨h1, h2, h3, h4, h5, h6⟩ := h
  obtain ⟨c, o, w⟩ := t
  unfold swOk at hsw
  unfold swN ecN mvN
  cases sw <;> simp at hsw h1 h2 h3 h4 h5 h6 ⊢ <;> grind
theorem opI_lt {o : Option Nat} (h : ∀ k, o = some k → k < 16) : opI o = -1 ↔ o = none := by
  cases o with
  | none => simp [opI]
  | some k =>
    have h1 := h k rfl
    constructor
    · intro h2
      have h3 := congrArg Int32.toInt h2
      simp only [opI, nI_toInt (show k < 2 ^ 31 by omega)] at h3
      have : ((-1 : Int32)).toInt = -1 := by decide
      omega
    · intro h2; cases h2
theorem rTgt_nI {ld : Nat → Int32} {s : mS} (hd : ∀ j, j < 16 → ld j = nI (s (37 + j))) (hd2 : ∀ j, j < 16 → s (37 + j) ≤ 1) (hL : 2 ≤ s 0) (hL2 : s 0 ≤ 8) {c st : Nat} (hc : c < 16) (hst : st < 4) : rTgt ld (nI (s 0)) (nI c) (nI st) = opI (ldN s c st) := by
  unfold rTgt ldN
  have e : ∀ j : Nat, j < 4 → (nI st = nI j ↔ st = j) := fun j hj => nI_eq (by omega) (by omega)
  rcases (by omega : st = 0 ∨ st = 1 ∨ st = 2 ∨ st = 3) with rfl | rfl | rfl | rfl
  · rw [if_pos (show nI 0 = 0 from rfl), if_pos rfl]
    by_cases h0 : c = 0
    · subst h0; rfl
    · rw [if_neg (nI_nle (by omega) (by omega)), if_neg h0, show (1 : Int32) = nI 1 from rfl, pk_sub (by omega)]; rfl
  · rw [if_neg (show ¬ nI 1 = 0 by decide), if_pos (show nI 1 = 1 from rfl), if_neg (show ¬ (1 : Nat) = 0 by decide), if_pos rfl]
    by_cases h0 : c + 1 < 16
    · rw [if_neg (show ¬ 15 ≤ nI c from fun h => by have := (ge_nI (a := 15) (i := c) (by decide) (by omega) rfl rfl).mp h; omega), if_pos h0, nI_1]; rfl
    · rw [if_pos (show 15 ≤ nI c from (ge_nI (a := 15) (i := c) (by decide) (by omega) rfl rfl).mpr (by omega)), if_neg h0]; rfl
  · rw [if_neg (by decide), if_neg (by decide), if_pos (show nI 2 = 2 from rfl), if_neg (by decide), if_neg (by decide), if_pos rfl]
    exact rBelow_nI hd hd2 hL hL2 hc
  · rw [if_neg (by decide), if_neg (by decide), if_neg (by decide), if_pos (show nI 3 = 3 from rfl), if_neg (by decide), if_neg (by decide), if_neg (by decide)]
    exact rAbove_nI hd hd2 hL hL2 hc
theorem rWay_nI {lk : Nat → Int32} {s : mS} (hk : ∀ j, j < 15 → lk j = nI (s (22 + j))) {c st : Nat} (hc : c < 16) (hst : st < 4) (h0 : st = 0 → 0 < c) (h1 : st = 1 → c < 15) : rWay lk (nI c) (nI st) = nI (wyN s c st) := by
  unfold rWay wyN
  rcases (by omega : st = 0 ∨ st = 1 ∨ st = 2 ∨ st = 3) with rfl | rfl | rfl | rfl
  · have := h0 rfl
    rw [if_pos (show nI 0 = 0 from rfl), if_pos rfl, show (1 : Int32) = nI 1 from rfl, pk_sub (by omega), rLock_nI (by omega), hk _ (by omega)]
  · have := h1 rfl
    rw [if_neg (by decide), if_pos (show nI 1 = 1 from rfl), if_neg (by decide), if_pos rfl, rLock_nI (by omega), hk _ (by omega)]
  · rw [if_neg (by decide), if_neg (by decide), if_neg (by decide), if_neg (by decide)]; rfl
  · rw [if_neg (by decide), if_neg (by decide), if_neg (by decide), if_neg (by decide)]; rfl
/-- what is asked of a state -/
def mOk (s : mS) : Prop := 2 ≤ s 0 ∧ s 0 ≤ 8 ∧ s 1 < 16 ∧ (∀ a, a ≤ 16 → kAt s a ≤ 5) ∧ (∀ j, j < 15 → s (22 + j) ≤ 5) ∧ (∀ j, j < 16 → s (37 + j) ≤ 1)
theorem gM_cases {s : mS} {c st : Nat} {nx : Nat} (h : ldN s c st = some nx) (hst : st < 4) : (st = 0 → 0 < c) ∧ (st = 1 → c < 15) := by
  unfold ldN at h
  constructor
  · intro h0; subst h0; rw [if_pos rfl] at h; split at h
    · cases h
    · omega
  · intro h0; subst h0; rw [if_neg (by decide), if_pos rfl] at h; split at h
    · omega
    · cases h
/-- the answer of after, in the graph's words -/
theorem rAft_gM {lk ld : Nat → Int32} {s : mS} (hok : mOk s) (hk : ∀ j, j < 15 → lk j = nI (s (22 + j))) (hd : ∀ j, j < 16 → ld j = nI (s (37 + j))) {b1 b2 k1 k2 : Nat} {sw : Bool} (hsw : swOk k1 k2 b1 b2 sw) (hb1 : b1 ≤ 5) (hb2 : b2 ≤ 5) {t : bT} (ht : vM b1 b2 t) {st : Nat} (hst : st < 5) :
    rAft lk ld (nI k1) (nI k2) (nI (s 0)) (nI (ecN k1 k2 sw t)) (nI st) = (match gM s b1 b2 t st with
      | some t' => nI (ecN k1 k2 sw t')
      | none => if st = 4 ∨ ldN s t.1 st = none then -1 else -2) := by
  obtain ⟨o1, o2, o3, o4, o5, o6⟩ := hok
  obtain ⟨f, g, e1, l1, l2, ef, eg⟩ := ecN_parts (k1 := k1) (k2 := k2) (sw := sw) ht
  have hc := ht.1
  have hk1 : k1 ≤ 5 ∧ k2 ≤ 5 := by unfold swOk at hsw; split at hsw <;> omega
  have hh : bwN k1 k2 f g 16 = hbN b1 b2 t := by rw [ef, eg]; exact bw_hand hsw ht
  have hb5 : ∀ a, bwN k1 k2 f g a ≤ 5 := fun a => by unfold bwN; split <;> (try split) <;> omega
  have z : ∀ n, n ≤ 5 → (nI n = 0 ↔ n = 0) := fun n hn => eq_nI (a := n) (i := 0) (by omega) (by decide) rfl rfl
  unfold rAft
  rw [e1, rCell_ec hc l1 l2]
  rw [show (16 : Int32) = nI 16 from rfl, rBow_ec hc l1 l2 (by omega), rBow_ec hc l1 l2 (by omega)]
  unfold gM
  by_cases h4 : st = 4
  · subst h4
    rw [if_pos (show nI 4 = 4 from rfl), if_pos rfl]
    have hn := bw_none hsw ht
    rw [← ef, ← eg] at hn
    have hsx := sw_ec hsw ht
    rw [← ef, ← eg] at hsx
    by_cases hm : (0 < b1 ∧ (t.2.1 = t.1 ∨ t.2.1 = 16)) ∨ (0 < b2 ∧ (t.2.2 = t.1 ∨ t.2.2 = 16))
    · rw [if_pos hm, rSwp_ec hc l1 l2, hsx]
      by_cases q1 : bwN k1 k2 f g 16 = 0
      · have q2 : ¬ bwN k1 k2 f g t.1 = 0 := fun q => (hn.mp ⟨q1, q⟩) hm
        rw [if_pos ((z _ (hb5 _)).mpr q1), if_neg (fun q => q2 ((z _ (hb5 _)).mp q))]
      · rw [if_neg (fun q => q1 ((z _ (hb5 _)).mp q))]
    · obtain ⟨q1, q2⟩ := hn.mpr hm
      rw [if_neg hm, if_pos ((z _ (hb5 _)).mpr q1), if_pos ((z _ (hb5 _)).mpr q2)]
      simp
  · have hst4 : st < 4 := by omega
    rw [if_neg (show ¬ nI st = 4 from fun h => h4 ((eq_nI (a := st) (i := 4) (by omega) (by decide) rfl rfl).mp h)), if_neg h4, rTgt_nI hd o6 o1 o2 hc hst4]
    cases hl : ldN s t.1 st with
    | none => simp [opI]
    | some nx =>
      have hnx := ldN_lt hc hl
      obtain ⟨g1, g2⟩ := gM_cases hl hst4
      rw [if_neg (fun h => by have := (opI_lt (o := some nx) (fun k hk => by cases hk; exact hnx)).mp h; cases this), rWay_nI hk hc hst4 g1 g2]
      have hw5 : wyN s t.1 st ≤ 5 := by
        unfold wyN
        split
        · exact o5 _ (by have := g1 (by assumption); omega)
        · split
          · exact o5 _ (by have := g2 (by assumption); omega)
          · omega
      rw [show opI (some nx) = nI nx from rfl, rMov_ec hc l1 l2 hnx, hh]
      have hen : nI (nx + 16 * f + 512 * g) = nI (ecN k1 k2 sw (nx, t.2.1, t.2.2)) := by unfold ecN; rw [ef, eg]
      have hb5' : hbN b1 b2 t ≤ 5 := by rw [← hh]; exact hb5 16
      by_cases q1 : wyN s t.1 st = 0
      · rw [if_pos ((z _ hw5).mpr q1)]
        simp [q1, hen]
      · rw [if_neg (fun q => q1 ((z _ hw5).mp q))]
        by_cases q2 : wyN s t.1 st = hbN b1 b2 t
        · rw [if_pos (by rw [q2])]
          simp [q2, hen]
        · rw [if_neg (fun q => q2 ((nI_eq (by omega) (by omega)).mp q))]
          simp [q1, q2, h4]
theorem ecN_lt {b1 b2 k1 k2 : Nat} {sw : Bool} {t : bT} (h : vM b1 b2 t) : ecN k1 k2 sw t < 16384 ∧ ecN k1 k2 sw t % 16 = t.1 := by
  obtain ⟨f, g, e1, l1, l2, -⟩ := ecN_parts (k1 := k1) (k2 := k2) (sw := sw) h
  have := h.1
  rw [e1]
  omega
theorem SGh_of {lk ld : Nat → Int32} {s : mS} (hok : mOk s) (hk : ∀ j, j < 15 → lk j = nI (s (22 + j))) (hd : ∀ j, j < 16 → ld j = nI (s (37 + j))) {b1 b2 k1 k2 : Nat} {sw : Bool} (hsw : swOk k1 k2 b1 b2 sw) (hb12 : 0 < b2 → 0 < b1) (hb1 : b1 ≤ 5) (hb2 : b2 ≤ 5) : SGh lk ld (nI k1) (nI k2) (nI (s 0)) (gM s b1 b2) (vM b1 b2) (ecN k1 k2 sw) := by
  refine ⟨fun t h => ⟨h.1, (ecN_lt h).1, (ecN_lt h).2⟩, fun a b h h' e => ecN_inj hsw h h' e, vM_len, fun t st h hst hg => ?_, fun t st t' h hst hg => ⟨vM_step hb12 h hg, ?_⟩⟩
  · rw [rAft_gM hok hk hd hsw hb1 hb2 h hst, hg]
    show (if _ then _ else _) < (0 : Int32)
    split <;> decide
  · rw [rAft_gM hok hk hd hsw hb1 hb2 h hst, hg]
