/-! the reference: changed, behind -/
theorem b01_t {p : Prop} [Decidable p] {v : Int32} (h : v = if p then 1 else 0) (h0 : ¬ v = 0) : p := by
  by_cases hp : p
  · exact hp
  · rw [if_neg hp] at h; exact absurd h h0
theorem b01_f {p : Prop} [Decidable p] {v : Int32} (h : v = if p then 1 else 0) (h0 : v = 0) : ¬ p := by
  intro hp
  rw [if_pos hp, h0] at h
  exact absurd h (by decide)
def gI (o : Option bT) : Int32 := match o with
  | none => -1
  | some t => nI (emN t)
theorem mvN_le {b a c : Nat} (ha : a ≤ 16) (hc : c < 16) : mvN b a c ≤ 16 := by unfold mvN; split <;> (try split) <;> omega
set_option maxHeartbeats 4000000 in
set_option maxRecDepth 100000 in
theorem k_X6_changed (l : Launch) (G : wG) {M : Nat} {A : Nat → Nat} {ke ty th ap ft il : Int32} {b1 b2 : Nat} {c o w : Nat} {x y z : Int32} (hb1 : b1 ≤ 5) (hb2 : b2 ≤ 5) (hp : x = nI c) (hc : c < 16) (ho : y = nI o) (hol : o ≤ 16) (hw : z = nI w) (hwl : w ≤ 16) : Con0 l G yX6_changed cX6_changed 8 (some .int) 0 [.ref M, .int x, .int y, .int z] [(M, ob 5 (mF A ke ty th ap ft (nI b1) (nI b2) il))] (fun r v => r = some (.int (if (0 < b1 ∧ (o = c ∨ o = 16)) ∨ (0 < b2 ∧ (w = c ∨ w = 16)) then nI (emN (c, mvN b1 o c, mvN b2 w c)) else -1)) ∧ v = [(M, ob 5 (mF A ke ty th ap ft (nI b1) (nI b2) il))]) := by
  refine Con.mk (by decide +kernel) (Nat.le_of_ble_eq_true rfl) (fun P C Rr => ?_)
  subst hp
  subst ho
  subst hw
  have J94 : ∀ (v4 v5 v6 v7 : Int32), v4 = (if 0 < b1 ∧ (o = c ∨ o = 16) then 1 else 0) → v5 = (if 0 < b2 ∧ (w = c ∨ w = 16) then 1 else 0) → v6 = nI (mvN b1 o c) → v7 = nI (mvN b2 w c) → P 0 0 94 [(0, .ref M), (1, .int (nI c)), (2, .int (nI o)), (3, .int (nI w)), (4, .int v4), (5, .int v5), (6, .int v6), (7, .int v7)] [] [(M, ob 5 (mF A ke ty th ap ft (nI b1) (nI b2) il))] := by
    intro v4 v5 v6 v7 h4 h5 h6 h7
    refine st_iload C (dk DX6_changed_1 8 rfl) rfl ?_
    refine st_if_ne C (tgt := 104) (dk DX6_changed_1 9 rfl) (by decide) (fun c_96 => ?_) (fun c_96 => ?_)
    · refine st_sipush C (v := 289) (dk DX6_changed_1 12 rfl) (by decide) ?_
      refine st_iload_n C (dk DX6_changed_1 13 rfl) rfl ?_
      refine st_imul C (dk DX6_changed_1 14 rfl) ?_
      refine st_bipush C (v := 17) (dk DX6_changed_1 15 rfl) (by decide) ?_
      refine st_iload C (dk DX6_changed_1 16 rfl) rfl ?_
      refine st_imul C (dk DX6_changed_1 17 rfl) ?_
      refine st_iadd C (dk DX6_changed_1 18 rfl) ?_
      refine st_iload C (dk DX6_changed_1 19 rfl) rfl ?_
      refine st_iadd C (dk DX6_changed_1 20 rfl) ?_
      refine st_goto C (tgt := 122) (dk DX6_changed_1 21 rfl) (by decide) ?_
      refine Rr 0 0 _ _ _ _ _ _ (Nat.zero_le _) (Nat.zero_le _) (dk DX6_changed_1 23 rfl) (.inr (.inl ⟨_, rfl, rfl, rfl, rfl⟩)) rfl ?_
      refine ⟨rfl, ?_, rfl⟩
      rw [if_pos (Or.inl (b01_t h4 c_96)), h6, h7, show (289 : Int32) = nI 289 from rfl, show (17 : Int32) = nI 17 from rfl, pk_mul, pk_mul, nI_add, nI_add]
      rfl
    · refine st_iload C (dk DX6_changed_1 10 rfl) rfl ?_
      refine st_if_eq C (tgt := 121) (dk DX6_changed_1 11 rfl) (by decide) (fun c_101 => ?_) (fun c_101 => ?_)
      · refine st_iconst C (v := -1) (dk DX6_changed_1 22 rfl) (by decide) ?_
        refine Rr 0 0 _ _ _ _ _ _ (Nat.zero_le _) (Nat.zero_le _) (dk DX6_changed_1 23 rfl) (.inr (.inl ⟨_, rfl, rfl, rfl, rfl⟩)) rfl ?_
        have n4 := b01_f h4 c_96
        have n5 := b01_f h5 c_101
        exact ⟨rfl, by rw [if_neg (fun h => h.elim n4 n5)], rfl⟩
      · refine st_sipush C (v := 289) (dk DX6_changed_1 12 rfl) (by decide) ?_
        refine st_iload_n C (dk DX6_changed_1 13 rfl) rfl ?_
        refine st_imul C (dk DX6_changed_1 14 rfl) ?_
        refine st_bipush C (v := 17) (dk DX6_changed_1 15 rfl) (by decide) ?_
        refine st_iload C (dk DX6_changed_1 16 rfl) rfl ?_
        refine st_imul C (dk DX6_changed_1 17 rfl) ?_
        refine st_iadd C (dk DX6_changed_1 18 rfl) ?_
        refine st_iload C (dk DX6_changed_1 19 rfl) rfl ?_
        refine st_iadd C (dk DX6_changed_1 20 rfl) ?_
        refine st_goto C (tgt := 122) (dk DX6_changed_1 21 rfl) (by decide) ?_
        refine Rr 0 0 _ _ _ _ _ _ (Nat.zero_le _) (Nat.zero_le _) (dk DX6_changed_1 23 rfl) (.inr (.inl ⟨_, rfl, rfl, rfl, rfl⟩)) rfl ?_
        refine ⟨rfl, ?_, rfl⟩
        rw [if_pos (Or.inr (b01_t h5 c_101)), h6, h7, show (289 : Int32) = nI 289 from rfl, show (17 : Int32) = nI 17 from rfl, pk_mul, pk_mul, nI_add, nI_add]
        rfl
  have J72 : ∀ (v4 v5 v6 : Int32), v4 = (if 0 < b1 ∧ (o = c ∨ o = 16) then 1 else 0) → v5 = (if 0 < b2 ∧ (w = c ∨ w = 16) then 1 else 0) → v6 = nI (mvN b1 o c) → P 0 0 72 [(0, .ref M), (1, .int (nI c)), (2, .int (nI o)), (3, .int (nI w)), (4, .int v4), (5, .int v5), (6, .int v6)] [] [(M, ob 5 (mF A ke ty th ap ft (nI b1) (nI b2) il))] := by
    intro v4 v5 v6 h4 h5 h6
    refine st_iload C (dk DX6_changed_0 37 rfl) rfl ?_
    refine st_if_ne C (tgt := 81) (dk DX6_changed_0 38 rfl) (by decide) (fun c_74 => ?_) (fun c_74 => ?_)
    · refine st_iload_n C (dk DX6_changed_1 1 rfl) rfl ?_
      refine st_iload_n C (dk DX6_changed_1 2 rfl) rfl ?_
      refine st_icmp_ne C (tgt := 91) (dk DX6_changed_1 3 rfl) (by decide) (fun c_83 => ?_) (fun c_83 => ?_)
      · refine st_iload_n C (dk DX6_changed_1 6 rfl) rfl ?_
        refine st_istore C (dk DX6_changed_1 7 rfl) (by decide) rfl ?_
        exact J94 _ _ _ _ h4 h5 h6 (by unfold mvN; rw [if_pos (b01_t h5 c_74), if_neg (fun e => c_83 (by rw [e]))])
      · refine st_bipush C (v := 16) (dk DX6_changed_1 4 rfl) (by decide) ?_
        refine st_goto C (tgt := 92) (dk DX6_changed_1 5 rfl) (by decide) ?_
        refine st_istore C (dk DX6_changed_1 7 rfl) (by decide) rfl ?_
        exact J94 _ _ _ _ h4 h5 h6 (by unfold mvN; rw [if_pos (b01_t h5 c_74), if_pos ((nI_eq (by omega) (by omega)).mp c_83)]; rfl)
    · refine st_iload_n C (dk DX6_changed_0 39 rfl) rfl ?_
      refine st_goto C (tgt := 92) (dk DX6_changed_1 0 rfl) (by decide) ?_
      refine st_istore C (dk DX6_changed_1 7 rfl) (by decide) rfl ?_
      exact J94 _ _ _ _ h4 h5 h6 (by unfold mvN; rw [if_neg (b01_f h5 c_74)])
  have J50 : ∀ (v4 v5 : Int32), v4 = (if 0 < b1 ∧ (o = c ∨ o = 16) then 1 else 0) → v5 = (if 0 < b2 ∧ (w = c ∨ w = 16) then 1 else 0) → P 0 0 50 [(0, .ref M), (1, .int (nI c)), (2, .int (nI o)), (3, .int (nI w)), (4, .int v4), (5, .int v5)] [] [(M, ob 5 (mF A ke ty th ap ft (nI b1) (nI b2) il))] := by
    intro v4 v5 h4 h5
    refine st_iload C (dk DX6_changed_0 26 rfl) rfl ?_
    refine st_if_ne C (tgt := 59) (dk DX6_changed_0 27 rfl) (by decide) (fun c_52 => ?_) (fun c_52 => ?_)
    · refine st_iload_n C (dk DX6_changed_0 30 rfl) rfl ?_
      refine st_iload_n C (dk DX6_changed_0 31 rfl) rfl ?_
      refine st_icmp_ne C (tgt := 69) (dk DX6_changed_0 32 rfl) (by decide) (fun c_61 => ?_) (fun c_61 => ?_)
      · refine st_iload_n C (dk DX6_changed_0 35 rfl) rfl ?_
        refine st_istore C (dk DX6_changed_0 36 rfl) (by decide) rfl ?_
        exact J72 _ _ _ h4 h5 (by unfold mvN; rw [if_pos (b01_t h4 c_52), if_neg (fun e => c_61 (by rw [e]))])
      · refine st_bipush C (v := 16) (dk DX6_changed_0 33 rfl) (by decide) ?_
        refine st_goto C (tgt := 70) (dk DX6_changed_0 34 rfl) (by decide) ?_
        refine st_istore C (dk DX6_changed_0 36 rfl) (by decide) rfl ?_
        exact J72 _ _ _ h4 h5 (by unfold mvN; rw [if_pos (b01_t h4 c_52), if_pos ((nI_eq (by omega) (by omega)).mp c_61)]; rfl)
    · refine st_iload_n C (dk DX6_changed_0 28 rfl) rfl ?_
      refine st_goto C (tgt := 70) (dk DX6_changed_0 29 rfl) (by decide) ?_
      refine st_istore C (dk DX6_changed_0 36 rfl) (by decide) rfl ?_
      exact J72 _ _ _ h4 h5 (by unfold mvN; rw [if_neg (b01_f h4 c_52)])
  have J25 : ∀ (v4 : Int32), v4 = (if 0 < b1 ∧ (o = c ∨ o = 16) then 1 else 0) → P 0 0 25 [(0, .ref M), (1, .int (nI c)), (2, .int (nI o)), (3, .int (nI w)), (4, .int v4)] [] [(M, ob 5 (mF A ke ty th ap ft (nI b1) (nI b2) il))] := by
    intro v4 h4
    refine st_aload_n C (dk DX6_changed_0 13 rfl) rfl ?_
    refine st_get C fl_RX6_84 (dk DX6_changed_0 14 rfl) 0 rfl rfl ?_
    refine st_if_le C (tgt := 47) (dk DX6_changed_0 15 rfl) (by decide) (fun c_29 => ?_) (fun c_29 => ?_)
    · refine st_iconst C (v := 0) (dk DX6_changed_0 24 rfl) (by decide) ?_
      refine st_istore C (dk DX6_changed_0 25 rfl) (by decide) rfl ?_
      rw [le0_nI (by omega)] at c_29
      exact J50 _ _ h4 (by rw [if_neg (show ¬ (0 < b2 ∧ (w = c ∨ w = 16)) by omega)])
    · refine st_iload_n C (dk DX6_changed_0 16 rfl) rfl ?_
      refine st_iload_n C (dk DX6_changed_0 17 rfl) rfl ?_
      refine st_icmp_eq C (tgt := 43) (dk DX6_changed_0 18 rfl) (by decide) (fun c_34 => ?_) (fun c_34 => ?_)
      · refine st_iconst C (v := 1) (dk DX6_changed_0 22 rfl) (by decide) ?_
        refine st_goto C (tgt := 48) (dk DX6_changed_0 23 rfl) (by decide) ?_
        refine st_istore C (dk DX6_changed_0 25 rfl) (by decide) rfl ?_
        rw [le0_nI (by omega)] at c_29
        rw [nI_eq (by omega) (by omega)] at c_34
        exact J50 _ _ h4 (by rw [if_pos (show (0 < b2 ∧ (w = c ∨ w = 16)) by omega)])
      · refine st_iload_n C (dk DX6_changed_0 19 rfl) rfl ?_
        refine st_bipush C (v := 16) (dk DX6_changed_0 20 rfl) (by decide) ?_
        refine st_icmp_ne C (tgt := 47) (dk DX6_changed_0 21 rfl) (by decide) (fun c_40 => ?_) (fun c_40 => ?_)
        · refine st_iconst C (v := 0) (dk DX6_changed_0 24 rfl) (by decide) ?_
          refine st_istore C (dk DX6_changed_0 25 rfl) (by decide) rfl ?_
          rw [le0_nI (by omega)] at c_29
          rw [nI_eq (by omega) (by omega)] at c_34
          rw [show (16 : Int32) = nI 16 from rfl, nI_eq (by omega) (by omega)] at c_40
          exact J50 _ _ h4 (by rw [if_neg (show ¬ (0 < b2 ∧ (w = c ∨ w = 16)) by omega)])
        · refine st_iconst C (v := 1) (dk DX6_changed_0 22 rfl) (by decide) ?_
          refine st_goto C (tgt := 48) (dk DX6_changed_0 23 rfl) (by decide) ?_
          refine st_istore C (dk DX6_changed_0 25 rfl) (by decide) rfl ?_
          rw [le0_nI (by omega)] at c_29
          rw [nI_eq (by omega) (by omega)] at c_34
          rw [show (16 : Int32) = nI 16 from rfl, nI_eq (by omega) (by omega)] at c_40
          exact J50 _ _ h4 (by rw [if_pos (show (0 < b2 ∧ (w = c ∨ w = 16)) by omega)])
  refine st_aload_n C (dk DX6_changed_0 0 rfl) rfl ?_
  refine st_get C fl_RX6_81 (dk DX6_changed_0 1 rfl) 0 rfl rfl ?_
  refine st_if_le C (tgt := 22) (dk DX6_changed_0 2 rfl) (by decide) (fun c_4 => ?_) (fun c_4 => ?_)
  · refine st_iconst C (v := 0) (dk DX6_changed_0 11 rfl) (by decide) ?_
    refine st_istore C (dk DX6_changed_0 12 rfl) (by decide) rfl ?_
    rw [le0_nI (by omega)] at c_4
    exact J25 _ (by rw [if_neg (show ¬ (0 < b1 ∧ (o = c ∨ o = 16)) by omega)])
  · refine st_iload_n C (dk DX6_changed_0 3 rfl) rfl ?_
    refine st_iload_n C (dk DX6_changed_0 4 rfl) rfl ?_
    refine st_icmp_eq C (tgt := 18) (dk DX6_changed_0 5 rfl) (by decide) (fun c_9 => ?_) (fun c_9 => ?_)
    · refine st_iconst C (v := 1) (dk DX6_changed_0 9 rfl) (by decide) ?_
      refine st_goto C (tgt := 23) (dk DX6_changed_0 10 rfl) (by decide) ?_
      refine st_istore C (dk DX6_changed_0 12 rfl) (by decide) rfl ?_
      rw [le0_nI (by omega)] at c_4
      rw [nI_eq (by omega) (by omega)] at c_9
      exact J25 _ (by rw [if_pos (show (0 < b1 ∧ (o = c ∨ o = 16)) by omega)])
    · refine st_iload_n C (dk DX6_changed_0 6 rfl) rfl ?_
      refine st_bipush C (v := 16) (dk DX6_changed_0 7 rfl) (by decide) ?_
      refine st_icmp_ne C (tgt := 22) (dk DX6_changed_0 8 rfl) (by decide) (fun c_15 => ?_) (fun c_15 => ?_)
      · refine st_iconst C (v := 0) (dk DX6_changed_0 11 rfl) (by decide) ?_
        refine st_istore C (dk DX6_changed_0 12 rfl) (by decide) rfl ?_
        rw [le0_nI (by omega)] at c_4
        rw [nI_eq (by omega) (by omega)] at c_9
        rw [show (16 : Int32) = nI 16 from rfl, nI_eq (by omega) (by omega)] at c_15
        exact J25 _ (by rw [if_neg (show ¬ (0 < b1 ∧ (o = c ∨ o = 16)) by omega)])
      · refine st_iconst C (v := 1) (dk DX6_changed_0 9 rfl) (by decide) ?_
        refine st_goto C (tgt := 23) (dk DX6_changed_0 10 rfl) (by decide) ?_
        refine st_istore C (dk DX6_changed_0 12 rfl) (by decide) rfl ?_
        rw [le0_nI (by omega)] at c_4
        rw [nI_eq (by omega) (by omega)] at c_9
        rw [show (16 : Int32) = nI 16 from rfl, nI_eq (by omega) (by omega)] at c_15
        exact J25 _ (by rw [if_pos (show (0 < b1 ∧ (o = c ∨ o = 16)) by omega)])
set_option maxHeartbeats 4000000 in
set_option maxRecDepth 100000 in
theorem k_X6_behind (l : Launch) (G : wG) {M : Nat} {A : Nat → Nat} {ke ty th ap ft il : Int32} {b1 b2 : Nat} {a : Nat} {f : Nat → Int32} {s : mS} {t : bT} {st : Nat} {x y : Int32} (hf : hd53 f s) (hok : mOk s) (hb1 : b1 ≤ 5) (hb2 : b2 ≤ 5) (hx : x = nI (emN t)) (hv : vM b1 b2 t) (hy : y = nI st) (hst : st < 5) : Con0 l G yX6_behind cX6_behind 10 (some .int) 4 [.ref M, .ref a, .int x, .int y] [(M, ob 5 (mF A ke ty th ap ft (nI b1) (nI b2) il)), (a, aI G 53 f)] (fun r v => r = some (.int (gI (gM s b1 b2 t st))) ∧ v = [(M, ob 5 (mF A ke ty th ap ft (nI b1) (nI b2) il)), (a, aI G 53 f)]) := by
  refine Con.mk (by decide +kernel) (Nat.le_of_ble_eq_true rfl) (fun P C Rr => ?_)
  subst hx
  subst hy
  obtain ⟨c, o, w⟩ := t
  obtain ⟨hc, hol, hwl, hv4, hv5, hv6⟩ := id hv
  simp only at hc hol hwl hv4 hv5 hv6
  obtain ⟨o1, o2, o3, o4, o5, o6⟩ := hok
  have he : emN (c, o, w) = 289 * c + 17 * o + w := rfl
  have el : emN (c, o, w) < 4624 := emN_lt hv
  have q1 : nI (emN (c, o, w)) / 289 = nI c := by rw [show (289 : Int32) = nI 289 from rfl, pk_div (by omega) (by decide) (by decide)]; congr 1; omega
  have q2 : nI (emN (c, o, w)) / 17 - nI (emN (c, o, w)) / 17 / 17 * 17 = nI o := by rw [show (17 : Int32) = nI 17 from rfl, pk_div (by omega) (by decide) (by decide), pk_rem (by omega) (by decide) (by decide)]; congr 1; omega
  have q3 : nI (emN (c, o, w)) - nI (emN (c, o, w)) / 17 * 17 = nI w := by rw [show (17 : Int32) = nI 17 from rfl, pk_rem (by omega) (by decide) (by decide)]; congr 1; omega
  have J109 : ∀ (nx : Nat) (v9 : Int32), ¬ st = 4 → ldN s c st = some nx → v9 = nI (hbN b1 b2 (c, o, w)) → P 0 0 109 [(0, .ref M), (1, .ref a), (2, .int (nI (emN (c, o, w)))), (3, .int (nI st)), (4, .int (nI c)), (5, .int (nI o)), (6, .int (nI w)), (7, .int (nI nx)), (8, .int (nI (wyN s c st))), (9, .int v9)] [] [(M, ob 5 (mF A ke ty th ap ft (nI b1) (nI b2) il)), (a, aI G 53 f)] := by
    intro nx v9 h4 hl h9
    have hnx := ldN_lt hc hl
    have hw5 := wy5 s o5 hl (by omega) hc
    have hb5 : hbN b1 b2 (c, o, w) ≤ 5 := by unfold hbN; split <;> (try split) <;> omega
    have hg : gM s b1 b2 (c, o, w) st = if wyN s c st = 0 ∨ wyN s c st = hbN b1 b2 (c, o, w) then some (nx, o, w) else none := by unfold gM; rw [if_neg h4]; simp only [hl]
    refine st_iload C (dk DX6_behind_1 18 rfl) rfl ?_
    refine st_if_eq C (tgt := 121) (dk DX6_behind_1 19 rfl) (by decide) (fun c_111 => ?_) (fun c_111 => ?_)
    · refine st_iload_n C (dk DX6_behind_1 23 rfl) rfl ?_
      refine st_sipush C (v := 289) (dk DX6_behind_1 24 rfl) (by decide) ?_
      refine st_iload C (dk DX6_behind_1 25 rfl) rfl ?_
      refine st_iload C (dk DX6_behind_1 26 rfl) rfl ?_
      refine st_isub C (dk DX6_behind_1 27 rfl) ?_
      refine st_imul C (dk DX6_behind_1 28 rfl) ?_
      refine st_iadd C (dk DX6_behind_1 29 rfl) ?_
      refine st_goto C (tgt := 136) (dk DX6_behind_1 30 rfl) (by decide) ?_
      refine Rr 0 0 _ _ _ _ _ _ (Nat.zero_le _) (Nat.zero_le _) (dk DX6_behind_1 32 rfl) (.inr (.inl ⟨_, rfl, rfl, rfl, rfl⟩)) rfl ?_
      refine ⟨rfl, ?_, rfl⟩
      rw [hg, if_pos (Or.inl ((eq_nI (a := wyN s c st) (i := 0) (by omega) (by decide) rfl rfl).mp c_111)), emove2 hnx hc]
      rfl
    · refine st_iload C (dk DX6_behind_1 20 rfl) rfl ?_
      refine st_iload C (dk DX6_behind_1 21 rfl) rfl ?_
      refine st_icmp_ne C (tgt := 135) (dk DX6_behind_1 22 rfl) (by decide) (fun c_118 => ?_) (fun c_118 => ?_)
      · refine st_iconst C (v := -1) (dk DX6_behind_1 31 rfl) (by decide) ?_
        refine Rr 0 0 _ _ _ _ _ _ (Nat.zero_le _) (Nat.zero_le _) (dk DX6_behind_1 32 rfl) (.inr (.inl ⟨_, rfl, rfl, rfl, rfl⟩)) rfl ?_
        rw [h9, nI_eq (by omega) (by omega)] at c_118
        have h0 : ¬ wyN s c st = 0 := fun h => c_111 (by rw [h]; rfl)
        exact ⟨rfl, by rw [hg, if_neg (fun h => h.elim h0 c_118)]; rfl, rfl⟩
      · refine st_iload_n C (dk DX6_behind_1 23 rfl) rfl ?_
        refine st_sipush C (v := 289) (dk DX6_behind_1 24 rfl) (by decide) ?_
        refine st_iload C (dk DX6_behind_1 25 rfl) rfl ?_
        refine st_iload C (dk DX6_behind_1 26 rfl) rfl ?_
        refine st_isub C (dk DX6_behind_1 27 rfl) ?_
        refine st_imul C (dk DX6_behind_1 28 rfl) ?_
        refine st_iadd C (dk DX6_behind_1 29 rfl) ?_
        refine st_goto C (tgt := 136) (dk DX6_behind_1 30 rfl) (by decide) ?_
        refine Rr 0 0 _ _ _ _ _ _ (Nat.zero_le _) (Nat.zero_le _) (dk DX6_behind_1 32 rfl) (.inr (.inl ⟨_, rfl, rfl, rfl, rfl⟩)) rfl ?_
        refine ⟨rfl, ?_, rfl⟩
        rw [hg, if_pos (Or.inr ((nI_eq (by omega) (by omega)).mp (h9 ▸ c_118))), emove2 hnx hc]
        rfl
  refine st_iload_n C (dk DX6_behind_0 0 rfl) rfl ?_
  refine st_sipush C (v := 289) (dk DX6_behind_0 1 rfl) (by decide) ?_
  refine st_idiv C (dk DX6_behind_0 2 rfl) (by decide) ?_
  rw [q1]
  refine st_istore C (dk DX6_behind_0 3 rfl) (by decide) rfl ?_
  refine st_iload_n C (dk DX6_behind_0 4 rfl) rfl ?_
  refine st_bipush C (v := 17) (dk DX6_behind_0 5 rfl) (by decide) ?_
  refine st_idiv C (dk DX6_behind_0 6 rfl) (by decide) ?_
  refine st_bipush C (v := 17) (dk DX6_behind_0 7 rfl) (by decide) ?_
  refine st_irem C (dk DX6_behind_0 8 rfl) (by decide) ?_
  rw [q2]
  refine st_istore C (dk DX6_behind_0 9 rfl) (by decide) rfl ?_
  refine st_iload_n C (dk DX6_behind_0 10 rfl) rfl ?_
  refine st_bipush C (v := 17) (dk DX6_behind_0 11 rfl) (by decide) ?_
  refine st_irem C (dk DX6_behind_0 12 rfl) (by decide) ?_
  rw [q3]
  refine st_istore C (dk DX6_behind_0 13 rfl) (by decide) rfl ?_
  refine st_iload_n C (dk DX6_behind_0 14 rfl) rfl ?_
  refine st_iconst C (v := 4) (dk DX6_behind_0 15 rfl) (by decide) ?_
  refine st_icmp_ne C (tgt := 38) (dk DX6_behind_0 16 rfl) (by decide) (fun c_24 => ?_) (fun c_24 => ?_)
  · refine st_aload_n C (dk DX6_behind_0 23 rfl) rfl ?_
    refine st_iload C (dk DX6_behind_0 24 rfl) rfl ?_
    refine st_iload_n C (dk DX6_behind_0 25 rfl) rfl ?_
    refine st_cS C (k_X6_leads l G hf o1 o2 o6 rfl hc rfl (st := st) (by have : ¬ st = 4 := (fun h => c_24 (by rw [h]; rfl)); omega)) mf_X6_leads ms_X6_leads ml_RX6_74 (dk DX6_behind_0 26 rfl) [1] rfl rfl rfl rfl (Nat.le_of_ble_eq_true rfl) ⟨Nat.le_of_ble_eq_true rfl, Nat.le_of_ble_eq_true rfl⟩ ⟨Nat.zero_le _, Nat.zero_le _⟩ (fun r9 w9 hq9 => ?_)
    obtain ⟨rfl, rfl⟩ := hq9
    refine st_istore C (dk DX6_behind_0 27 rfl) (by decide) rfl ?_
    refine st_iload C (dk DX6_behind_0 28 rfl) rfl ?_
    refine st_iconst C (v := -1) (dk DX6_behind_0 29 rfl) (by decide) ?_
    refine st_icmp_ne C (tgt := 55) (dk DX6_behind_0 30 rfl) (by decide) (fun c_50 => ?_) (fun c_50 => ?_)
    · have h4 : ¬ st = 4 := fun h => c_24 (by rw [h]; rfl)
      obtain ⟨nx, hl⟩ : ∃ nx, ldN s c st = some nx := by
        cases h : ldN s c st with
        | none => exact absurd (by rw [h]; rfl) c_50
        | some nx => exact ⟨nx, rfl⟩
      rw [hl]
      refine st_aload_n C (dk DX6_behind_0 33 rfl) rfl ?_
      refine st_iload C (dk DX6_behind_0 34 rfl) rfl ?_
      refine st_iload_n C (dk DX6_behind_0 35 rfl) rfl ?_
      refine st_cS C (k_X6_lockOn l G hf rfl hc rfl hst (gM_cases hl (by omega)).1) mf_X6_lockOn ms_X6_lockOn ml_RX6_78 (dk DX6_behind_0 36 rfl) [1] rfl rfl rfl rfl (Nat.le_of_ble_eq_true rfl) ⟨Nat.le_of_ble_eq_true rfl, Nat.le_of_ble_eq_true rfl⟩ ⟨Nat.zero_le _, Nat.zero_le _⟩ (fun r9 w9 hq9 => ?_)
      obtain ⟨rfl, rfl⟩ := hq9
      refine st_istore C (dk DX6_behind_0 37 rfl) (by decide) rfl ?_
      refine st_aload_n C (dk DX6_behind_0 38 rfl) rfl ?_
      refine st_get C fl_RX6_81 (dk DX6_behind_0 39 rfl) 0 rfl rfl ?_
      refine st_if_le C (tgt := 85) (dk DX6_behind_1 0 rfl) (by decide) (fun c_68 => ?_) (fun c_68 => ?_)
      · refine st_aload_n C (dk DX6_behind_1 7 rfl) rfl ?_
        refine st_get C fl_RX6_84 (dk DX6_behind_1 8 rfl) 0 rfl rfl ?_
        refine st_if_le C (tgt := 106) (dk DX6_behind_1 9 rfl) (by decide) (fun c_89 => ?_) (fun c_89 => ?_)
        · refine st_iconst C (v := 0) (dk DX6_behind_1 16 rfl) (by decide) ?_
          refine st_istore C (dk DX6_behind_1 17 rfl) (by decide) rfl ?_
          rw [le0_nI (by omega)] at c_68
          rw [le0_nI (by omega)] at c_89
          exact J109 nx _ h4 hl (by unfold hbN; rw [if_neg (show ¬ (0 < b1 ∧ o = 16) by omega), if_neg (show ¬ (0 < b2 ∧ w = 16) by omega)]; rfl)
        · refine st_iload C (dk DX6_behind_1 10 rfl) rfl ?_
          refine st_bipush C (v := 16) (dk DX6_behind_1 11 rfl) (by decide) ?_
          refine st_icmp_ne C (tgt := 106) (dk DX6_behind_1 12 rfl) (by decide) (fun c_96 => ?_) (fun c_96 => ?_)
          · refine st_iconst C (v := 0) (dk DX6_behind_1 16 rfl) (by decide) ?_
            refine st_istore C (dk DX6_behind_1 17 rfl) (by decide) rfl ?_
            rw [le0_nI (by omega)] at c_68
            rw [le0_nI (by omega)] at c_89
            rw [show (16 : Int32) = nI 16 from rfl, nI_eq (by omega) (by omega)] at c_96
            exact J109 nx _ h4 hl (by unfold hbN; rw [if_neg (show ¬ (0 < b1 ∧ o = 16) by omega), if_neg (show ¬ (0 < b2 ∧ w = 16) by omega)]; rfl)
          · refine st_aload_n C (dk DX6_behind_1 13 rfl) rfl ?_
            refine st_get C fl_RX6_84 (dk DX6_behind_1 14 rfl) 0 rfl rfl ?_
            refine st_goto C (tgt := 107) (dk DX6_behind_1 15 rfl) (by decide) ?_
            refine st_istore C (dk DX6_behind_1 17 rfl) (by decide) rfl ?_
            rw [le0_nI (by omega)] at c_68
            rw [le0_nI (by omega)] at c_89
            rw [show (16 : Int32) = nI 16 from rfl, nI_eq (by omega) (by omega)] at c_96
            exact J109 nx _ h4 hl (by unfold hbN; rw [if_neg (show ¬ (0 < b1 ∧ o = 16) by omega), if_pos (show 0 < b2 ∧ w = 16 by omega)])
      · refine st_iload C (dk DX6_behind_1 1 rfl) rfl ?_
        refine st_bipush C (v := 16) (dk DX6_behind_1 2 rfl) (by decide) ?_
        refine st_icmp_ne C (tgt := 85) (dk DX6_behind_1 3 rfl) (by decide) (fun c_75 => ?_) (fun c_75 => ?_)
        · refine st_aload_n C (dk DX6_behind_1 7 rfl) rfl ?_
          refine st_get C fl_RX6_84 (dk DX6_behind_1 8 rfl) 0 rfl rfl ?_
          refine st_if_le C (tgt := 106) (dk DX6_behind_1 9 rfl) (by decide) (fun c_89 => ?_) (fun c_89 => ?_)
          · refine st_iconst C (v := 0) (dk DX6_behind_1 16 rfl) (by decide) ?_
            refine st_istore C (dk DX6_behind_1 17 rfl) (by decide) rfl ?_
            rw [le0_nI (by omega)] at c_68
            rw [show (16 : Int32) = nI 16 from rfl, nI_eq (by omega) (by omega)] at c_75
            rw [le0_nI (by omega)] at c_89
            exact J109 nx _ h4 hl (by unfold hbN; rw [if_neg (show ¬ (0 < b1 ∧ o = 16) by omega), if_neg (show ¬ (0 < b2 ∧ w = 16) by omega)]; rfl)
          · refine st_iload C (dk DX6_behind_1 10 rfl) rfl ?_
            refine st_bipush C (v := 16) (dk DX6_behind_1 11 rfl) (by decide) ?_
            refine st_icmp_ne C (tgt := 106) (dk DX6_behind_1 12 rfl) (by decide) (fun c_96 => ?_) (fun c_96 => ?_)
            · refine st_iconst C (v := 0) (dk DX6_behind_1 16 rfl) (by decide) ?_
              refine st_istore C (dk DX6_behind_1 17 rfl) (by decide) rfl ?_
              rw [le0_nI (by omega)] at c_68
              rw [show (16 : Int32) = nI 16 from rfl, nI_eq (by omega) (by omega)] at c_75
              rw [le0_nI (by omega)] at c_89
              rw [show (16 : Int32) = nI 16 from rfl, nI_eq (by omega) (by omega)] at c_96
              exact J109 nx _ h4 hl (by unfold hbN; rw [if_neg (show ¬ (0 < b1 ∧ o = 16) by omega), if_neg (show ¬ (0 < b2 ∧ w = 16) by omega)]; rfl)
            · refine st_aload_n C (dk DX6_behind_1 13 rfl) rfl ?_
              refine st_get C fl_RX6_84 (dk DX6_behind_1 14 rfl) 0 rfl rfl ?_
              refine st_goto C (tgt := 107) (dk DX6_behind_1 15 rfl) (by decide) ?_
              refine st_istore C (dk DX6_behind_1 17 rfl) (by decide) rfl ?_
              rw [le0_nI (by omega)] at c_68
              rw [show (16 : Int32) = nI 16 from rfl, nI_eq (by omega) (by omega)] at c_75
              rw [le0_nI (by omega)] at c_89
              rw [show (16 : Int32) = nI 16 from rfl, nI_eq (by omega) (by omega)] at c_96
              exact J109 nx _ h4 hl (by unfold hbN; rw [if_neg (show ¬ (0 < b1 ∧ o = 16) by omega), if_pos (show 0 < b2 ∧ w = 16 by omega)])
        · refine st_aload_n C (dk DX6_behind_1 4 rfl) rfl ?_
          refine st_get C fl_RX6_81 (dk DX6_behind_1 5 rfl) 0 rfl rfl ?_
          refine st_goto C (tgt := 107) (dk DX6_behind_1 6 rfl) (by decide) ?_
          refine st_istore C (dk DX6_behind_1 17 rfl) (by decide) rfl ?_
          rw [le0_nI (by omega)] at c_68
          rw [show (16 : Int32) = nI 16 from rfl, nI_eq (by omega) (by omega)] at c_75
          exact J109 nx _ h4 hl (by unfold hbN; rw [if_pos (show 0 < b1 ∧ o = 16 by omega)])
    · refine st_iconst C (v := -1) (dk DX6_behind_0 31 rfl) (by decide) ?_
      refine Rr 0 0 _ _ _ _ _ _ (Nat.zero_le _) (Nat.zero_le _) (dk DX6_behind_0 32 rfl) (.inr (.inl ⟨_, rfl, rfl, rfl, rfl⟩)) rfl ?_
      refine ⟨rfl, ?_, rfl⟩
      have h4 : ¬ st = 4 := fun h => c_24 (by rw [h]; rfl)
      have hl : ldN s c st = none := (opI_lt (fun k hk => ldN_lt hc hk)).mp c_50
      unfold gM
      rw [if_neg h4]
      simp only [hl]
      rfl
  · refine st_aload_n C (dk DX6_behind_0 17 rfl) rfl ?_
    refine st_iload C (dk DX6_behind_0 18 rfl) rfl ?_
    refine st_iload C (dk DX6_behind_0 19 rfl) rfl ?_
    refine st_iload C (dk DX6_behind_0 20 rfl) rfl ?_
    refine st_cV C (k_X6_changed l G hb1 hb2 rfl hc rfl hol rfl hwl) mf_X6_changed mi_X6_changed ml_RX6_87 (dk DX6_behind_0 21 rfl) [0] rfl rfl rfl rfl (Nat.le_of_ble_eq_true rfl) rfl rfl ⟨Nat.le_of_ble_eq_true rfl, Nat.le_of_ble_eq_true rfl⟩ ⟨Nat.zero_le _, Nat.zero_le _⟩ (fun r9 w9 hq9 => ?_)
    obtain ⟨rfl, rfl⟩ := hq9
    refine Rr 0 0 _ _ _ _ _ _ (Nat.zero_le _) (Nat.zero_le _) (dk DX6_behind_0 22 rfl) (.inr (.inl ⟨_, rfl, rfl, rfl, rfl⟩)) rfl ?_
    refine ⟨rfl, ?_, rfl⟩
    have h4 : st = 4 := (eq_nI (a := st) (i := 4) (by omega) (by decide) rfl rfl).mp c_24
    unfold gM
    rw [if_pos h4]
    show some (Value.int (if _ then _ else _)) = some (Value.int (gI (if _ then _ else _)))
    split <;> rfl
