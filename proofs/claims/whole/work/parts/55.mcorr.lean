/-! the reference: firstError, corridor -/
theorem fe_le (tx : Nat → Nat) : ∀ n, fe tx n ≤ n
  | 0 => Nat.le_refl _
  | n + 1 => by
    have := fe_le tx n
    rw [fe]
    by_cases h1 : fe tx n < n
    · rw [if_pos h1]; omega
    · rw [if_neg h1]
      by_cases h2 : (tRun tx (n + 1)).isSome = true
      · rw [if_pos h2]; exact Nat.le_refl _
      · rw [if_neg h2]; omega
def uS (s kf lf : mS) : Nat → mS
  | 0 => updS (updS s 1 0) 2 0
  | i + 1 => updS (updS (uS s kf lf i) (6 + i) (kf i)) (37 + i) (lf i)
def wS (s kf df lf : mS) : Nat → mS
  | 0 => uS s kf lf 16
  | i + 1 => updS (wS s kf df lf i) (22 + i) (df i)
theorem uS_at (s kf lf : mS) : ∀ i, i ≤ 16 → ∀ j, uS s kf lf i j = if 6 ≤ j ∧ j < 6 + i then kf (j - 6) else if 37 ≤ j ∧ j < 37 + i then lf (j - 37) else if j = 1 ∨ j = 2 then 0 else s j
  | 0, _, j => by
    rw [if_neg (by omega), if_neg (by omega)]
    show updS (updS s 1 0) 2 0 j = _
    by_cases e2 : j = 2
    · subst e2; rw [updS_s]; rfl
    · rw [updS_n _ _ e2]
      by_cases e1 : j = 1
      · subst e1; rw [updS_s]; rfl
      · rw [updS_n _ _ e1, if_neg (by omega)]
  | i + 1, h, j => by
    have ih := uS_at s kf lf i (by omega) j
    show updS (updS (uS s kf lf i) (6 + i) (kf i)) (37 + i) (lf i) j = _
    by_cases e2 : j = 37 + i
    · subst e2; rw [updS_s, if_neg (by omega), if_pos (by omega)]; congr 1; omega
    · rw [updS_n _ _ e2]
      by_cases e1 : j = 6 + i
      · subst e1; rw [updS_s, if_pos (by omega)]; congr 1; omega
      · rw [updS_n _ _ e1, ih]
        by_cases a1 : 6 ≤ j ∧ j < 6 + i
        · rw [if_pos a1, if_pos (by omega)]
        · rw [if_neg a1, if_neg (show ¬ (6 ≤ j ∧ j < 6 + (i + 1)) by omega)]
          by_cases a2 : 37 ≤ j ∧ j < 37 + i
          · rw [if_pos a2, if_pos (by omega)]
          · rw [if_neg a2, if_neg (show ¬ (37 ≤ j ∧ j < 37 + (i + 1)) by omega)]
theorem wS_at (s kf df lf : mS) : ∀ i, i ≤ 15 → ∀ j, wS s kf df lf i j = if 22 ≤ j ∧ j < 22 + i then df (j - 22) else uS s kf lf 16 j
  | 0, _, j => by rw [if_neg (by omega)]; rfl
  | i + 1, h, j => by
    have ih := wS_at s kf df lf i (by omega) j
    show updS (wS s kf df lf i) (22 + i) (df i) j = _
    by_cases e1 : j = 22 + i
    · subst e1; rw [updS_s, if_pos (by omega)]; congr 1; omega
    · rw [updS_n _ _ e1, ih]
      by_cases a1 : 22 ≤ j ∧ j < 22 + i
      · rw [if_pos a1, if_pos (by omega)]
      · rw [if_neg a1, if_neg (show ¬ (22 ≤ j ∧ j < 22 + (i + 1)) by omega)]
theorem wS_tS (s kf df lf : mS) {j : Nat} (hj : j < 53) : wS s kf df lf 15 j = tS s kf df lf j := by
  rw [wS_at s kf df lf 15 (by omega), uS_at s kf lf 16 (by omega)]
  unfold tS
  by_cases a1 : 22 ≤ j ∧ j < 37
  · rw [if_pos (by omega), if_neg (by omega), if_neg (by omega), if_neg (by omega), if_pos (by omega)]
  · rw [if_neg (by omega)]
    by_cases a2 : j < 22
    · by_cases a3 : 6 ≤ j
      · rw [if_pos (by omega), if_neg (by omega), if_neg (by omega), if_pos (by omega)]
      · rw [if_neg (by omega), if_neg (by omega)]
        by_cases a4 : j = 1 ∨ j = 2
        · rw [if_pos a4, if_pos a4]
        · rw [if_neg a4, if_neg a4, if_pos (by omega)]
    · rw [if_neg (by omega), if_pos (by omega), if_neg (by omega), if_neg (by omega), if_neg (by omega), if_neg (by omega)]
theorem hd53.congr {f : Nat → Int32} {s s' : mS} (h : hd53 f s) (e : ∀ j, j < 53 → s j = s' j) : hd53 f s' := fun j hj => by rw [← e j hj]; exact h j hj
set_option maxHeartbeats 4000000 in
set_option maxRecDepth 100000 in
theorem k_X6_firstError (l : Launch) (G : wG) {M : Nat} {A : Nat → Nat} {ke ty th ap ft bo ot il : Int32} {f3 tl : Nat → Int32} {n : Nat} {tx : Nat → Nat} (hty : ty = nI n) (hn : n ≤ 60) (ht : hdT f3 n tx) : Con0 l G yX6_firstError cX6_firstError 2 (some .int) 3 [.ref M] [(M, ob 5 (mF A ke ty th ap ft bo ot il)), (A 3, aI G 60 f3), (A 4, aI G 48 tl)] (fun r w9 => r = some (.int (nI (fe tx n))) ∧ ∃ (ap9 ft9 : Int32) (tl9 : Nat → Int32), w9 = [(M, ob 5 (mF A ke ty 0 ap9 ft9 bo ot il)), (A 3, aI G 60 f3), (A 4, aI G 48 tl9)]) := by
  refine Con.mk (by decide +kernel) (Nat.le_of_ble_eq_true rfl) (fun P C Rr => ?_)
  refine st_aload_n C (dk DX6_firstError_0 0 rfl) rfl ?_
  refine st_iconst C (v := 0) (dk DX6_firstError_0 1 rfl) (by decide) ?_
  refine st_put C fl_RX6_40 fc_5 fw_5_6 (dk DX6_firstError_0 2 rfl) 0 rfl rfl rfl (Nat.le_of_ble_eq_true rfl) ?_
  refine st_aload_n C (dk DX6_firstError_0 3 rfl) rfl ?_
  refine st_cV C (k_X6_isText l G hty hn ht) mf_X6_isText mi_X6_isText ml_RX6_142 (dk DX6_firstError_0 4 rfl) [0, 1, 2] rfl rfl rfl rfl (Nat.le_of_ble_eq_true rfl) rfl rfl ⟨Nat.le_of_ble_eq_true rfl, Nat.le_of_ble_eq_true rfl⟩ ⟨Nat.zero_le _, Nat.zero_le _⟩ (fun r9 w9 hq9 => ?_)
  obtain ⟨c6, la6, dg6, kf6, df6, lf6, tl6, hq6, rfl, hu6, rfl⟩ := hq9
  refine st_istore_n C (dk DX6_firstError_0 5 rfl) (by decide) rfl ?_
  refine st_iload_n C (dk DX6_firstError_0 6 rfl) rfl ?_
  refine st_if_ne C (tgt := 28) (dk DX6_firstError_0 7 rfl) (by decide) (fun c_11 => ?_) (fun c_11 => ?_)
  · refine st_aload_n C (dk DX6_firstError_0 14 rfl) rfl ?_
    refine st_get C fl_RX6_129 (dk DX6_firstError_0 15 rfl) 0 rfl rfl ?_
    refine Rr 0 0 _ _ _ _ _ _ (Nat.zero_le _) (Nat.zero_le _) (dk DX6_firstError_0 16 rfl) (.inr (.inl ⟨_, rfl, rfl, rfl, rfl⟩)) rfl ?_
    have hn9 : n = fe tx n := (b01_t rfl c_11).1.symm
    exact ⟨rfl, by rw [hty, ← hn9], _, _, _, rfl⟩
  · refine st_aload_n C (dk DX6_firstError_0 8 rfl) rfl ?_
    refine st_get C fl_RX6_135 (dk DX6_firstError_0 9 rfl) 0 rfl rfl ?_
    refine st_if_eq C (tgt := 28) (dk DX6_firstError_0 10 rfl) (by decide) (fun c_18 => ?_) (fun c_18 => ?_)
    · refine st_aload_n C (dk DX6_firstError_0 14 rfl) rfl ?_
      refine st_get C fl_RX6_129 (dk DX6_firstError_0 15 rfl) 0 rfl rfl ?_
      refine Rr 0 0 _ _ _ _ _ _ (Nat.zero_le _) (Nat.zero_le _) (dk DX6_firstError_0 16 rfl) (.inr (.inl ⟨_, rfl, rfl, rfl, rfl⟩)) rfl ?_
      have hn9 : n = fe tx n := (by have h1 := b01_f rfl c_18; have h2 := fe_le tx n; omega)
      exact ⟨rfl, by rw [hty, ← hn9], _, _, _, rfl⟩
    · refine st_aload_n C (dk DX6_firstError_0 11 rfl) rfl ?_
      refine st_get C fl_RX6_132 (dk DX6_firstError_0 12 rfl) 0 rfl rfl ?_
      refine st_goto C (tgt := 32) (dk DX6_firstError_0 13 rfl) (by decide) ?_
      exact Rr 0 0 _ _ _ _ _ _ (Nat.zero_le _) (Nat.zero_le _) (dk DX6_firstError_0 16 rfl) (.inr (.inl ⟨_, rfl, rfl, rfl, rfl⟩)) rfl ⟨rfl, ⟨rfl, _, _, _, rfl⟩⟩
set_option maxHeartbeats 4000000 in
set_option maxRecDepth 100000 in
theorem k_X6_corridor (l : Launch) (G : wG) {M : Nat} {A : Nat → Nat} {ke ty th ap ft bo ot il : Int32} {s : mS} {f0 f2 f3 tl : Nat → Int32} {k n : Nat} {p : Nat → mS} {tx : Nat → Nat} (hf : hd53 f0 s) (hok : mOk s) (hke : ke = nI k) (hk : k ≤ 6) (hp : pastR f2 k p) (hty : ty = nI n) (hn : n ≤ 60) (ht : hdT f3 n tx) : Con0 l G yX6_corridor cX6_corridor 2 (some .int) 3 [.ref M] [(M, ob 5 (mF A ke ty th ap ft bo ot il)), (A 0, aI G 53 f0), (A 2, aI G 318 f2), (A 3, aI G 60 f3), (A 4, aI G 48 tl)] (fun r w9 => ∃ (c la dg : Nat) (kf df lf : mS), tRun tx (fe tx n) = some (c, la, dg, kf, df, lf) ∧ ((¬ (fe tx n = n ∧ c = 16) ∧ r = some (.int 0) ∧ ∃ (ap9 ft9 : Int32) (tl9 : Nat → Int32), w9 = [(M, ob 5 (mF A ke ty 1 ap9 ft9 bo ot il)), (A 0, aI G 53 f0), (A 2, aI G 318 f2), (A 3, aI G 60 f3), (A 4, aI G 48 tl9)]) ∨ (fe tx n = n ∧ c = 16 ∧ r = some (.int (nI (kcN (tS s kf df lf) 16))) ∧ ∃ (ap9 ft9 : Int32) (f09 f29 tl9 : Nat → Int32), hd53 f09 (tS s kf df lf) ∧ pastR f29 (svK k) (svP s k p) ∧ w9 = [(M, ob 5 (mF A (nI (svK k)) 0 0 ap9 ft9 bo ot 0)), (A 0, aI G 53 f09), (A 2, aI G 318 f29), (A 3, aI G 60 f3), (A 4, aI G 48 tl9)]))) := by
  refine Con.mk (by decide +kernel) (Nat.le_of_ble_eq_true rfl) (fun P C Rr => ?_)
  refine st_aload_n C (dk DX6_corridor_0 0 rfl) rfl ?_
  refine st_iconst C (v := 0) (dk DX6_corridor_0 1 rfl) (by decide) ?_
  refine st_put C fl_RX6_40 fc_5 fw_5_6 (dk DX6_corridor_0 2 rfl) 0 rfl rfl rfl (Nat.le_of_ble_eq_true rfl) ?_
  refine st_aload_n C (dk DX6_corridor_0 3 rfl) rfl ?_
  refine st_cV C (k_X6_isText l G hty hn ht) mf_X6_isText mi_X6_isText ml_RX6_142 (dk DX6_corridor_0 4 rfl) [0, 3, 4] rfl rfl rfl rfl (Nat.le_of_ble_eq_true rfl) rfl rfl ⟨Nat.le_of_ble_eq_true rfl, Nat.le_of_ble_eq_true rfl⟩ ⟨Nat.zero_le _, Nat.zero_le _⟩ (fun r9 w9 hq9 => ?_)
  obtain ⟨c6, la6, dg6, kf6, df6, lf6, tl6, hq6, rfl, hu6, rfl⟩ := hq9
  refine st_if_ne C (tgt := 18) (dk DX6_corridor_0 5 rfl) (by decide) (fun c_9 => ?_) (fun c_9 => ?_)
  · have hI := b01_t rfl c_9
    have htold := hu6 hI
    refine st_aload_n C (dk DX6_corridor_0 10 rfl) rfl ?_
    refine st_cV C (k_X6_saves l G hf hke hk hp) mf_X6_saves mi_X6_saves ml_RX6_105 (dk DX6_corridor_0 11 rfl) [0, 2, 1] rfl rfl rfl rfl (Nat.le_of_ble_eq_true rfl) rfl rfl ⟨Nat.le_of_ble_eq_true rfl, Nat.le_of_ble_eq_true rfl⟩ ⟨Nat.zero_le _, Nat.zero_le _⟩ (fun r9 w9 hq9 => ?_)
    obtain ⟨rfl, f219, hp19, rfl⟩ := hq9
    refine st_aload_n C (dk DX6_corridor_0 12 rfl) rfl ?_
    refine st_iconst C (v := 0) (dk DX6_corridor_0 13 rfl) (by decide) ?_
    refine st_put C fl_RX6_129 fc_5 fw_5_5 (dk DX6_corridor_0 14 rfl) 0 rfl rfl rfl (Nat.le_of_ble_eq_true rfl) ?_
    refine st_aload_n C (dk DX6_corridor_0 15 rfl) rfl ?_
    refine st_get C fl_RX6_7 (dk DX6_corridor_0 16 rfl) 0 rfl rfl ?_
    refine st_iconst C (v := 1) (dk DX6_corridor_0 17 rfl) (by decide) ?_
    refine st_iconst C (v := 0) (dk DX6_corridor_0 18 rfl) (by decide) ?_
    refine st_iast C (dk DX6_corridor_0 19 rfl) 1 rfl (vp_nI (i := 1) rfl (by decide) (by decide)) ?_
    refine st_aload_n C (dk DX6_corridor_0 20 rfl) rfl ?_
    refine st_get C fl_RX6_7 (dk DX6_corridor_0 21 rfl) 0 rfl rfl ?_
    refine st_iconst C (v := 2) (dk DX6_corridor_0 22 rfl) (by decide) ?_
    refine st_iconst C (v := 0) (dk DX6_corridor_0 23 rfl) (by decide) ?_
    refine st_iast C (dk DX6_corridor_0 24 rfl) 1 rfl (vp_nI (i := 2) rfl (by decide) (by decide)) ?_
    have hf2 : hd53 (upd (upd f0 1 0) 2 0) (uS s kf6 lf6 0) := hd53_ups (hd53_ups hf (by omega) rfl) (by omega) rfl
    have loop2 : ∀ (m i : Nat) (x : Int32) (f : Nat → Int32), i + m = 15 → x = nI i → hd53 f (wS s kf6 df6 lf6 i) → P 0 0 90 [(0, .ref M), (1, .int x)] [] [(M, ob 5 (mF A (nI (svK k)) 0 0 (nI (fe tx n)) (if fe tx n < n then 1 else 0) bo ot 0)), (A 0, aI G 53 f), (A 2, aI G 318 f219), (A 3, aI G 60 f3), (A 4, aI G 48 tl6)] := by
      intro m
      induction m with
      | zero =>
        intro i x f hi hx hf9
        obtain rfl : i = 15 := by omega
        refine st_iload_n C (dk DX6_corridor_1 16 rfl) rfl ?_
        refine st_bipush C (v := 15) (dk DX6_corridor_1 17 rfl) (by decide) ?_
        refine st_icmp_ge C (tgt := 120) (dk DX6_corridor_1 18 rfl) (by decide) (fun c_93 => ?_) (fun c_93 => ?_)
        · refine st_aload_n C (dk DX6_corridor_1 33 rfl) rfl ?_
          refine st_cV C (k_X6_keys l G (hf9.congr (fun j hj => wS_tS s kf6 df6 lf6 hj)) (mOk_tS hok (tRun_ok hq6))) mf_X6_keys mi_X6_keys ml_RX6_112 (dk DX6_corridor_1 34 rfl) [0, 1] rfl rfl rfl rfl (Nat.le_of_ble_eq_true rfl) rfl rfl ⟨Nat.le_of_ble_eq_true rfl, Nat.le_of_ble_eq_true rfl⟩ ⟨Nat.zero_le _, Nat.zero_le _⟩ (fun r9 w9 hq9 => ?_)
          obtain ⟨rfl, rfl⟩ := hq9
          exact Rr 0 0 _ _ _ _ _ _ (Nat.zero_le _) (Nat.zero_le _) (dk DX6_corridor_1 35 rfl) (.inr (.inl ⟨_, rfl, rfl, rfl, rfl⟩)) rfl ⟨rfl, ⟨_, _, _, _, _, _, hq6, Or.inr ⟨hI.1, hI.2, rfl, _, _, _, _, _, hf9.congr (fun j hj => wS_tS s kf6 df6 lf6 hj), hp19, rfl⟩⟩⟩
        · exact absurd ((ge_nI (a := 15) (i := 15) (by decide) (by decide) rfl hx).mpr (Nat.le_refl _)) c_93
      | succ m ih =>
        intro i x f hi hx hf9
        have hk22 : ((22 : Int32) + x).toNatClampNeg = 22 + i := by rw [hx]; exact cl_nI (nadd 22 i rfl) (by omega)
        have hk16 : ((16 : Int32) + x).toNatClampNeg = 16 + i := by rw [hx]; exact cl_nI (nadd 16 i rfl) (by omega)
        refine st_iload_n C (dk DX6_corridor_1 16 rfl) rfl ?_
        refine st_bipush C (v := 15) (dk DX6_corridor_1 17 rfl) (by decide) ?_
        refine st_icmp_ge C (tgt := 120) (dk DX6_corridor_1 18 rfl) (by decide) (fun c_93 => ?_) (fun c_93 => ?_)
        · exact absurd ((ge_nI (a := 15) (i := i) (by decide) (by omega) rfl hx).mp c_93) (by omega)
        · refine st_aload_n C (dk DX6_corridor_1 19 rfl) rfl ?_
          refine st_get C fl_RX6_7 (dk DX6_corridor_1 20 rfl) 0 rfl rfl ?_
          refine st_bipush C (v := 22) (dk DX6_corridor_1 21 rfl) (by decide) ?_
          refine st_iload_n C (dk DX6_corridor_1 22 rfl) rfl ?_
          refine st_iadd C (dk DX6_corridor_1 23 rfl) ?_
          refine st_aload_n C (dk DX6_corridor_1 24 rfl) rfl ?_
          refine st_get C fl_RX6_22 (dk DX6_corridor_1 25 rfl) 0 rfl rfl ?_
          refine st_bipush C (v := 16) (dk DX6_corridor_1 26 rfl) (by decide) ?_
          refine st_iload_n C (dk DX6_corridor_1 27 rfl) rfl ?_
          refine st_iadd C (dk DX6_corridor_1 28 rfl) ?_
          refine st_iald C (dk DX6_corridor_1 29 rfl) 4 rfl (by rw [hx]; exact vpA (k := 16) rfl (by omega) (by decide)) ?_
          refine st_iast C (dk DX6_corridor_1 30 rfl) 1 rfl (by rw [hx]; exact vpA (k := 22) rfl (by omega) (by decide)) ?_
          refine st_iinc C (dk DX6_corridor_1 31 rfl) rfl (iadd_ofInt _ (1) (1) (by decide)) (by decide) rfl ?_
          refine st_goto C (tgt := 90) (dk DX6_corridor_1 32 rfl) (by decide) ?_
          exact ih (i + 1) _ _ (by omega) (up_nI hx) (by rw [hk22, hk16, (htold i (by omega)).2.1]; exact hd53_ups hf9 (by omega) rfl)
    have loop1 : ∀ (m i : Nat) (x : Int32) (f : Nat → Int32), i + m = 16 → x = nI i → hd53 f (uS s kf6 lf6 i) → P 0 0 43 [(0, .ref M), (1, .int x)] [] [(M, ob 5 (mF A (nI (svK k)) 0 0 (nI (fe tx n)) (if fe tx n < n then 1 else 0) bo ot 0)), (A 0, aI G 53 f), (A 2, aI G 318 f219), (A 3, aI G 60 f3), (A 4, aI G 48 tl6)] := by
      intro m
      induction m with
      | zero =>
        intro i x f hi hx hf9
        obtain rfl : i = 16 := by omega
        refine st_iload_n C (dk DX6_corridor_0 27 rfl) rfl ?_
        refine st_bipush C (v := 16) (dk DX6_corridor_0 28 rfl) (by decide) ?_
        refine st_icmp_ge C (tgt := 88) (dk DX6_corridor_0 29 rfl) (by decide) (fun c_46 => ?_) (fun c_46 => ?_)
        · refine st_iconst C (v := 0) (dk DX6_corridor_1 14 rfl) (by decide) ?_
          refine st_istore_n C (dk DX6_corridor_1 15 rfl) (by decide) rfl ?_
          exact loop2 15 0 _ _ (by omega) rfl hf9
        · exact absurd ((ge_nI (a := 16) (i := 16) (by decide) (by decide) rfl hx).mpr (Nat.le_refl _)) c_46
      | succ m ih =>
        intro i x f hi hx hf9
        have hk6 : ((6 : Int32) + x).toNatClampNeg = 6 + i := by rw [hx]; exact cl_nI (nadd 6 i rfl) (by omega)
        have hk32 : ((32 : Int32) + x).toNatClampNeg = 32 + i := by rw [hx]; exact cl_nI (nadd 32 i rfl) (by omega)
        have hk37 : ((37 : Int32) + x).toNatClampNeg = 37 + i := by rw [hx]; exact cl_nI (nadd 37 i rfl) (by omega)
        have hki : x.toNatClampNeg = i := cl_nI hx (by omega)
        refine st_iload_n C (dk DX6_corridor_0 27 rfl) rfl ?_
        refine st_bipush C (v := 16) (dk DX6_corridor_0 28 rfl) (by decide) ?_
        refine st_icmp_ge C (tgt := 88) (dk DX6_corridor_0 29 rfl) (by decide) (fun c_46 => ?_) (fun c_46 => ?_)
        · exact absurd ((ge_nI (a := 16) (i := i) (by decide) (by omega) rfl hx).mp c_46) (by omega)
        · refine st_aload_n C (dk DX6_corridor_0 30 rfl) rfl ?_
          refine st_get C fl_RX6_7 (dk DX6_corridor_0 31 rfl) 0 rfl rfl ?_
          refine st_bipush C (v := 6) (dk DX6_corridor_0 32 rfl) (by decide) ?_
          refine st_iload_n C (dk DX6_corridor_0 33 rfl) rfl ?_
          refine st_iadd C (dk DX6_corridor_0 34 rfl) ?_
          refine st_aload_n C (dk DX6_corridor_0 35 rfl) rfl ?_
          refine st_get C fl_RX6_22 (dk DX6_corridor_0 36 rfl) 0 rfl rfl ?_
          refine st_iload_n C (dk DX6_corridor_0 37 rfl) rfl ?_
          refine st_iald C (dk DX6_corridor_0 38 rfl) 4 rfl (vp_nI hx (by omega) (by decide)) ?_
          refine st_iast C (dk DX6_corridor_0 39 rfl) 1 rfl (by rw [hx]; exact vpA (k := 6) rfl (by omega) (by decide)) ?_
          refine st_aload_n C (dk DX6_corridor_1 0 rfl) rfl ?_
          refine st_get C fl_RX6_7 (dk DX6_corridor_1 1 rfl) 0 rfl rfl ?_
          refine st_bipush C (v := 37) (dk DX6_corridor_1 2 rfl) (by decide) ?_
          refine st_iload_n C (dk DX6_corridor_1 3 rfl) rfl ?_
          refine st_iadd C (dk DX6_corridor_1 4 rfl) ?_
          refine st_aload_n C (dk DX6_corridor_1 5 rfl) rfl ?_
          refine st_get C fl_RX6_22 (dk DX6_corridor_1 6 rfl) 0 rfl rfl ?_
          refine st_bipush C (v := 32) (dk DX6_corridor_1 7 rfl) (by decide) ?_
          refine st_iload_n C (dk DX6_corridor_1 8 rfl) rfl ?_
          refine st_iadd C (dk DX6_corridor_1 9 rfl) ?_
          refine st_iald C (dk DX6_corridor_1 10 rfl) 4 rfl (by rw [hx]; exact vpA (k := 32) rfl (by omega) (by decide)) ?_
          refine st_iast C (dk DX6_corridor_1 11 rfl) 1 rfl (by rw [hx]; exact vpA (k := 37) rfl (by omega) (by decide)) ?_
          refine st_iinc C (dk DX6_corridor_1 12 rfl) rfl (iadd_ofInt _ (1) (1) (by decide)) (by decide) rfl ?_
          refine st_goto C (tgt := 43) (dk DX6_corridor_1 13 rfl) (by decide) ?_
          exact ih (i + 1) _ _ (by omega) (up_nI hx) (by rw [hki, hk6, hk32, hk37, (htold i (by omega)).1, (htold i (by omega)).2.2]; exact hd53_ups (hd53_ups hf9 (by omega) rfl) (by omega) rfl)
    refine st_iconst C (v := 0) (dk DX6_corridor_0 25 rfl) (by decide) ?_
    refine st_istore_n C (dk DX6_corridor_0 26 rfl) (by decide) rfl ?_
    exact loop1 16 0 _ _ (by omega) rfl hf2
  · refine st_aload_n C (dk DX6_corridor_0 6 rfl) rfl ?_
    refine st_iconst C (v := 1) (dk DX6_corridor_0 7 rfl) (by decide) ?_
    refine st_cV C (k_X6_fails l G) mf_X6_fails mi_X6_fails ml_RX6_59 (dk DX6_corridor_0 8 rfl) [0] rfl rfl rfl rfl (Nat.le_of_ble_eq_true rfl) rfl rfl ⟨Nat.le_of_ble_eq_true rfl, Nat.le_of_ble_eq_true rfl⟩ ⟨Nat.zero_le _, Nat.zero_le _⟩ (fun r9 w9 hq9 => ?_)
    obtain ⟨rfl, rfl⟩ := hq9
    exact Rr 0 0 _ _ _ _ _ _ (Nat.zero_le _) (Nat.zero_le _) (dk DX6_corridor_0 9 rfl) (.inr (.inl ⟨_, rfl, rfl, rfl, rfl⟩)) rfl ⟨rfl, ⟨_, _, _, _, _, _, hq6, Or.inl ⟨b01_f rfl c_9, rfl, _, _, _, rfl⟩⟩⟩
