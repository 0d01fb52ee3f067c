/-! the reference: digest -/
def hN (f : Nat → Int32) (h : Int64) : Nat → Int64
  | 0 => h
  | n + 1 => 31 * hN f h n + (f n).toInt64
theorem hN_0 (f : Nat → Int32) (h : Int64) : hN f h 0 = h := rfl
theorem hN_s (f : Nat → Int32) (h : Int64) (n : Nat) : 31 * hN f h n + (f n).toInt64 = hN f h (n + 1) := rfl
def lnN (Q : List bE) (c : Nat) : Nat := match fi Q c with
  | none => 0
  | some i => dst Q i
noncomputable def dg1 (s : mS) (k : Nat) : Int64 := hN (coI s k) 3319 7
noncomputable def dg2 (s : mS) (k : Nat) : Int64 := hN (fun w => nI (s (1 + w))) (dg1 s k) 5
noncomputable def dg3 (s : mS) (k : Nat) : Int64 := hN (fun j => ofI s (j / 7) (j % 7)) (dg2 s k) 112
noncomputable def dg4 (s : mS) (k : Nat) : Int64 := hN (fun st => nI (refN s st)) (dg3 s k) 5
noncomputable def dg5 (s : mS) (k : Nat) : Int64 := hN (fun a => plI (fS s) 15 a) (dg4 s k) (lnN (fS s) 15)
noncomputable def dg6 (s : mS) (k n : Nat) : Int64 := 31 * (31 * (31 * (31 * dg5 s k + (nI (cnt (fS (updS s 6 0)) 16)).toInt64) + (nI (cnt (fS (updS s 29 3)) 16)).toInt64) + (shD (cnt (fS s) 16)).toInt64) + (nI n).toInt64
noncomputable def digI (s : mS) (k n : Nat) (tx : Nat → Nat) : Int64 := hN (fun j => nI (tx j)) (dg6 s k n) n
theorem lnN_none {Q : List bE} {c : Nat} (h : fi Q c = none) : lnN Q c = 0 := by unfold lnN; rw [h]
theorem lnN_some {Q : List bE} {c i : Nat} (h : fi Q c = some i) : lnN Q c = dst Q i := by unfold lnN; rw [h]
theorem lnN_lt {s : mS} (hok : mOk s) (c : Nat) : lnN (fS s) c < 4624 := by
  cases hq : fi (fS s) c with
  | none => rw [lnN_none hq]; decide
  | some i =>
    have h1 := dst_small hok (fi_lt' hq)
    rw [lnN_some hq]
    omega
theorem lnN_le {s : mS} (hok : mOk s) (c : Nat) : lnOf (fS s) c ≤ nI (lnN (fS s) c) := by
  cases hq : fi (fS s) c with
  | none => rw [lnOf_none hq, lnN_none hq]; decide
  | some i =>
    have h1 := dst_small hok (fi_lt' hq)
    rw [lnOf_some hq, lnN_some hq]
    exact (nI_leI (by omega) (by omega)).mpr (Nat.le_refl _)
theorem lnN_gt {s : mS} (hok : mOk s) {c i : Nat} (h : i < lnN (fS s) c) : ¬ lnOf (fS s) c ≤ nI i := by
  have h0 := lnN_lt hok c
  intro h9
  cases hq : fi (fS s) c with
  | none => rw [lnN_none hq] at h; exact absurd h (Nat.not_lt_zero i)
  | some q =>
    rw [lnN_some hq] at h h0
    rw [lnOf_some hq] at h9
    have := (nI_leI (by omega) (by omega)).mp h9
    omega
set_option maxHeartbeats 4000000 in
set_option maxRecDepth 100000 in
theorem k_X6_digest (l : Launch) (G : wG) {M : Nat} {A : Nat → Nat} {ke ty th ap ft bo ot il : Int32} {s : mS} {f : Nat → Int32} {qu fr by9 fa fs : Nat → Int32} {f1 f3 : Nat → Int32} {k n : Nat} {tx : Nat → Nat} (hf : hd53 f s) (hok : mOk s) (hil : il = 0 ∨ (il = 1 ∧ MRel (fS s) qu fr by9 fa fs)) (hke : ke = nI k) (hty : ty = nI n) (hn : n ≤ 60) (ht : hdT f3 n tx) : Con0 l G yX6_digest cX6_digest 4 (some .long) 8 [.ref M] [(M, ob 5 (mF A ke ty th ap ft bo ot il)), (A 0, aI G 53 f), (A 1, aI G 53 f1), (A 3, aI G 60 f3), (A 5, aI G 4624 qu), (A 6, aI G 4624 fr), (A 7, aI G 4624 by9), (A 8, aI G 4624 fa), (A 9, aI G 16 fs)] (fun r w9 => r = some (.long (digI s k n tx)) ∧ ∃ (bo9 ot9 : Int32) (f19 qu9 fr9 by99 fa9 fs9 : Nat → Int32), MRel (fS s) qu9 fr9 by99 fa9 fs9 ∧ w9 = [(M, ob 5 (mF A ke ty 0 ap ft bo9 ot9 1)), (A 0, aI G 53 f), (A 1, aI G 53 f19), (A 3, aI G 60 f3), (A 5, aI G 4624 qu9), (A 6, aI G 4624 fr9), (A 7, aI G 4624 by99), (A 8, aI G 4624 fa9), (A 9, aI G 16 fs9)]) := by
  refine Con.mk (by decide +kernel) (Nat.le_of_ble_eq_true rfl) (fun P C Rr => ?_)
  have hlq := lnN_lt hok 15
  have loop7 : ∀ (m i : Nat) (x : Int32) (h : Int64) (bo ot : Int32) (f1 : Nat → Int32) (qu fr by9 fa fs : Nat → Int32), i + m = n → x = nI i → MRel (fS s) qu fr by9 fa fs → h = hN (fun j => nI (tx j)) (dg6 s k n) i → P 0 0 215 [(0, .ref M), (1, .long h), (3, .int x)] [] [(M, ob 5 (mF A ke ty 0 ap ft bo ot 1)), (A 0, aI G 53 f), (A 1, aI G 53 f1), (A 3, aI G 60 f3), (A 5, aI G 4624 qu), (A 6, aI G 4624 fr), (A 7, aI G 4624 by9), (A 8, aI G 4624 fa), (A 9, aI G 16 fs)] := by
    intro m
    induction m with
    | zero =>
      intro i x h bo ot f1 qu fr by9 fa fs hi hx hM hh
      have hin : i = n := by omega
      refine st_iload_n C (dk DX6_digest_3 11 rfl) rfl ?_
      refine st_aload_n C (dk DX6_digest_3 12 rfl) rfl ?_
      refine st_get C fl_RX6_129 (dk DX6_digest_3 13 rfl) 0 rfl rfl ?_
      refine st_icmp_ge C (tgt := 243) (dk DX6_digest_3 14 rfl) (by decide) (fun c_220 => ?_) (fun c_220 => ?_)
      · refine st_lload_n C (dk DX6_digest_3 27 rfl) rfl ?_
        refine Rr 0 0 _ _ _ _ _ _ (Nat.zero_le _) (Nat.zero_le _) (dk DX6_digest_3 28 rfl) (.inr (.inr (.inr (.inl ⟨_, rfl, rfl, rfl, rfl⟩)))) rfl ?_
        rw [hin] at hh
        exact ⟨rfl, by rw [hh, digI], bo, ot, f1, qu, fr, by9, fa, fs, hM, rfl⟩
      · exact absurd ((ge_nI (a := n) (i := i) (by omega) (by omega) hty hx).mpr (by omega)) c_220
    | succ m ih =>
      intro i x h bo ot f1 qu fr by9 fa fs hi hx hM hh
      refine st_iload_n C (dk DX6_digest_3 11 rfl) rfl ?_
      refine st_aload_n C (dk DX6_digest_3 12 rfl) rfl ?_
      refine st_get C fl_RX6_129 (dk DX6_digest_3 13 rfl) 0 rfl rfl ?_
      refine st_icmp_ge C (tgt := 243) (dk DX6_digest_3 14 rfl) (by decide) (fun c_220 => ?_) (fun c_220 => ?_)
      · exact absurd ((ge_nI (a := n) (i := i) (by omega) (by omega) hty hx).mp c_220) (by omega)
      · refine st_ldc2 C (dk DX6_digest_3 15 rfl) kc_RX6_181 ?_
        refine st_lload_n C (dk DX6_digest_3 16 rfl) rfl ?_
        refine st_lmul C (dk DX6_digest_3 17 rfl) ?_
        refine st_aload_n C (dk DX6_digest_3 18 rfl) rfl ?_
        refine st_get C fl_RX6_19 (dk DX6_digest_3 19 rfl) 0 rfl rfl ?_
        refine st_iload_n C (dk DX6_digest_3 20 rfl) rfl ?_
        refine st_iald C (dk DX6_digest_3 21 rfl) 3 rfl (vp_nI hx (by omega) (by decide)) ?_
        rw [show f3 x.toNatClampNeg = nI (tx i) by rw [cl_nI hx (by omega)]; exact (ht i (by omega)).1]
        refine st_i2l C (dk DX6_digest_3 22 rfl) ?_
        refine st_ladd C (dk DX6_digest_3 23 rfl) ?_
        refine st_lstore_n C (dk DX6_digest_3 24 rfl) (by decide) rfl rfl ?_
        refine st_iinc C (dk DX6_digest_3 25 rfl) rfl (iadd_ofInt _ (1) (1) (by decide)) (by decide) rfl ?_
        refine st_goto C (tgt := 215) (dk DX6_digest_3 26 rfl) (by decide) ?_
        exact ih (i + 1) _ _ _ _ _ _ _ _ _ _ (by omega) (up_nI hx) hM (by rw [hh]; exact hN_s _ _ _)
  have K189 : ∀ (h : Int64) (bo ot : Int32) (f1 : Nat → Int32) (qu fr by9 fa fs : Nat → Int32), h = 31 * (31 * dg5 s k + (nI (cnt (fS (updS s 6 0)) 16)).toInt64) + (nI (cnt (fS (updS s 29 3)) 16)).toInt64 → P 0 0 189 [(0, .ref M), (1, .long h)] [] [(M, ob 5 (mF A ke ty 0 ap ft bo ot 0)), (A 0, aI G 53 f), (A 1, aI G 53 f1), (A 3, aI G 60 f3), (A 5, aI G 4624 qu), (A 6, aI G 4624 fr), (A 7, aI G 4624 by9), (A 8, aI G 4624 fa), (A 9, aI G 16 fs)] := by
    intro h bo ot f1 qu fr by9 fa fs hh
    refine st_ldc2 C (dk DX6_digest_2 35 rfl) kc_RX6_181 ?_
    refine st_ldc2 C (dk DX6_digest_2 36 rfl) kc_RX6_181 ?_
    refine st_lload_n C (dk DX6_digest_2 37 rfl) rfl ?_
    refine st_lmul C (dk DX6_digest_2 38 rfl) ?_
    refine st_aload_n C (dk DX6_digest_2 39 rfl) rfl ?_
    refine st_cV C (k_X6_share l G hf hok (il := 0) (qu := qu) (fr := fr) (by9 := by9) (fa := fa) (fs := fs) (Or.inl rfl)) mf_X6_share mi_X6_share ml_RX6_175 (dk DX6_digest_3 0 rfl) [0, 1, 4, 5, 6, 7, 8] rfl rfl rfl rfl (Nat.le_of_ble_eq_true rfl) rfl rfl ⟨Nat.le_of_ble_eq_true rfl, Nat.le_of_ble_eq_true rfl⟩ ⟨Nat.zero_le _, Nat.zero_le _⟩ (fun r9 w9 hq9 => ?_)
    obtain ⟨rfl, bo198, ot198, qu198, fr198, by198, fa198, fs198, hM198, rfl⟩ := hq9
    refine st_cS C (k_JD_dtl l G (x := shD (cnt (fS s) 16)) (shD_num (cnt (fS s) 16) (by have := cnt_le (fS s) 16; omega))) mf_JD_dtl ms_JD_dtl ml_RX6_183 (dk DX6_digest_3 1 rfl) [] rfl rfl rfl rfl (Nat.le_of_ble_eq_true rfl) ⟨Nat.le_of_ble_eq_true rfl, Nat.le_of_ble_eq_true rfl⟩ ⟨Nat.zero_le _, Nat.zero_le _⟩ (fun r9 w9 hq9 => ?_)
    obtain ⟨rfl, rfl⟩ := hq9
    refine st_ladd C (dk DX6_digest_3 2 rfl) ?_
    refine st_lmul C (dk DX6_digest_3 3 rfl) ?_
    refine st_aload_n C (dk DX6_digest_3 4 rfl) rfl ?_
    refine st_get C fl_RX6_129 (dk DX6_digest_3 5 rfl) 0 rfl rfl ?_
    refine st_i2l C (dk DX6_digest_3 6 rfl) ?_
    refine st_ladd C (dk DX6_digest_3 7 rfl) ?_
    refine st_lstore_n C (dk DX6_digest_3 8 rfl) (by decide) rfl rfl ?_
    refine st_iconst C (v := 0) (dk DX6_digest_3 9 rfl) (by decide) ?_
    refine st_istore_n C (dk DX6_digest_3 10 rfl) (by decide) rfl ?_
    exact loop7 n 0 _ _ _ _ _ _ _ _ _ _ (by omega) rfl hM198 (by rw [hN_0, dg6, hh, hty])
  have K161 : ∀ (h : Int64) (bo ot : Int32) (f1 : Nat → Int32) (qu fr by9 fa fs : Nat → Int32), MRel (fS s) qu fr by9 fa fs → h = dg5 s k → P 0 0 161 [(0, .ref M), (1, .long h)] [] [(M, ob 5 (mF A ke ty 0 ap ft bo ot 1)), (A 0, aI G 53 f), (A 1, aI G 53 f1), (A 3, aI G 60 f3), (A 5, aI G 4624 qu), (A 6, aI G 4624 fr), (A 7, aI G 4624 by9), (A 8, aI G 4624 fa), (A 9, aI G 16 fs)] := by
    intro h bo ot f1 qu fr by9 fa fs hM hh
    refine st_ldc2 C (dk DX6_digest_2 17 rfl) kc_RX6_181 ?_
    refine st_ldc2 C (dk DX6_digest_2 18 rfl) kc_RX6_181 ?_
    refine st_lload_n C (dk DX6_digest_2 19 rfl) rfl ?_
    refine st_lmul C (dk DX6_digest_2 20 rfl) ?_
    refine st_aload_n C (dk DX6_digest_2 21 rfl) rfl ?_
    refine st_bipush C (v := 6) (dk DX6_digest_2 22 rfl) (by decide) ?_
    refine st_iconst C (v := 0) (dk DX6_digest_2 23 rfl) (by decide) ?_
    refine st_cV C (k_X6_with l G hf (hok.upd (k := 6) (v := 0) (by omega) (Or.inl (by omega))) rfl (by decide) rfl) mf_X6_with mi_X6_with ml_RX6_167 (dk DX6_digest_2 24 rfl) [0, 1, 2, 4, 5, 6, 7, 8] rfl rfl rfl rfl (Nat.le_of_ble_eq_true rfl) rfl rfl ⟨Nat.le_of_ble_eq_true rfl, Nat.le_of_ble_eq_true rfl⟩ ⟨Nat.zero_le _, Nat.zero_le _⟩ (fun r9 w9 hq9 => ?_)
    obtain ⟨rfl, bo173, ot173, f1173, qu173, fr173, by173, fa173, fs173, hM173, rfl⟩ := hq9
    refine st_i2l C (dk DX6_digest_2 25 rfl) ?_
    refine st_ladd C (dk DX6_digest_2 26 rfl) ?_
    refine st_lmul C (dk DX6_digest_2 27 rfl) ?_
    refine st_aload_n C (dk DX6_digest_2 28 rfl) rfl ?_
    refine st_bipush C (v := 29) (dk DX6_digest_2 29 rfl) (by decide) ?_
    refine st_iconst C (v := 3) (dk DX6_digest_2 30 rfl) (by decide) ?_
    refine st_cV C (k_X6_with l G hf (hok.upd (k := 29) (v := 3) (by omega) (Or.inl (by omega))) rfl (by decide) rfl) mf_X6_with mi_X6_with ml_RX6_167 (dk DX6_digest_2 31 rfl) [0, 1, 2, 4, 5, 6, 7, 8] rfl rfl rfl rfl (Nat.le_of_ble_eq_true rfl) rfl rfl ⟨Nat.le_of_ble_eq_true rfl, Nat.le_of_ble_eq_true rfl⟩ ⟨Nat.zero_le _, Nat.zero_le _⟩ (fun r9 w9 hq9 => ?_)
    obtain ⟨rfl, bo183, ot183, f1183, qu183, fr183, by183, fa183, fs183, hM183, rfl⟩ := hq9
    refine st_i2l C (dk DX6_digest_2 32 rfl) ?_
    refine st_ladd C (dk DX6_digest_2 33 rfl) ?_
    refine st_lstore_n C (dk DX6_digest_2 34 rfl) (by decide) rfl rfl ?_
    exact K189 _ _ _ _ _ _ _ _ _ (by rw [hh])
  have loop5 : ∀ (m i : Nat) (x : Int32) (h : Int64) (bo ot : Int32) (f1 : Nat → Int32) (qu fr by9 fa fs : Nat → Int32), i + m = (lnN (fS s) 15) → x = nI i → MRel (fS s) qu fr by9 fa fs → h = hN (fun a => plI (fS s) 15 a) (dg4 s k) i → P 0 0 130 [(0, .ref M), (1, .long h), (3, .int x)] [] [(M, ob 5 (mF A ke ty 0 ap ft bo ot 1)), (A 0, aI G 53 f), (A 1, aI G 53 f1), (A 3, aI G 60 f3), (A 5, aI G 4624 qu), (A 6, aI G 4624 fr), (A 7, aI G 4624 by9), (A 8, aI G 4624 fa), (A 9, aI G 16 fs)] := by
    intro m
    induction m with
    | zero =>
      intro i x h bo ot f1 qu fr by9 fa fs hi hx hM hh
      have hin : i = (lnN (fS s) 15) := by omega
      refine st_iload_n C (dk DX6_digest_2 0 rfl) rfl ?_
      refine st_aload_n C (dk DX6_digest_2 1 rfl) rfl ?_
      refine st_bipush C (v := 15) (dk DX6_digest_2 2 rfl) (by decide) ?_
      refine st_cV C (k_X6_steps l G hok hM rfl (by decide : 15 < 16)) mf_X6_steps mi_X6_steps ml_RX6_102 (dk DX6_digest_2 3 rfl) [0, 7, 8] rfl rfl rfl rfl (Nat.le_of_ble_eq_true rfl) rfl rfl ⟨Nat.le_of_ble_eq_true rfl, Nat.le_of_ble_eq_true rfl⟩ ⟨Nat.zero_le _, Nat.zero_le _⟩ (fun r9 w9 hq9 => ?_)
      obtain ⟨rfl, rfl⟩ := hq9
      refine st_icmp_ge C (tgt := 161) (dk DX6_digest_2 4 rfl) (by decide) (fun c_137 => ?_) (fun c_137 => ?_)
      · refine st_lv C [0, 1] rfl ?_
        exact K161 _ _ _ _ _ _ _ _ _ hM (by rw [hh, hin, dg5])
      · exact absurd ((by rw [hx, hin]; exact lnN_le hok 15)) c_137
    | succ m ih =>
      intro i x h bo ot f1 qu fr by9 fa fs hi hx hM hh
      refine st_iload_n C (dk DX6_digest_2 0 rfl) rfl ?_
      refine st_aload_n C (dk DX6_digest_2 1 rfl) rfl ?_
      refine st_bipush C (v := 15) (dk DX6_digest_2 2 rfl) (by decide) ?_
      refine st_cV C (k_X6_steps l G hok hM rfl (by decide : 15 < 16)) mf_X6_steps mi_X6_steps ml_RX6_102 (dk DX6_digest_2 3 rfl) [0, 7, 8] rfl rfl rfl rfl (Nat.le_of_ble_eq_true rfl) rfl rfl ⟨Nat.le_of_ble_eq_true rfl, Nat.le_of_ble_eq_true rfl⟩ ⟨Nat.zero_le _, Nat.zero_le _⟩ (fun r9 w9 hq9 => ?_)
      obtain ⟨rfl, rfl⟩ := hq9
      refine st_icmp_ge C (tgt := 161) (dk DX6_digest_2 4 rfl) (by decide) (fun c_137 => ?_) (fun c_137 => ?_)
      · exact absurd (by rw [← hx]; exact c_137) (lnN_gt hok (c := 15) (i := i) (by omega))
      · refine st_ldc2 C (dk DX6_digest_2 5 rfl) kc_RX6_181 ?_
        refine st_lload_n C (dk DX6_digest_2 6 rfl) rfl ?_
        refine st_lmul C (dk DX6_digest_2 7 rfl) ?_
        refine st_aload_n C (dk DX6_digest_2 8 rfl) rfl ?_
        refine st_bipush C (v := 15) (dk DX6_digest_2 9 rfl) (by decide) ?_
        refine st_iload_n C (dk DX6_digest_2 10 rfl) rfl ?_
        refine st_cV C (k_X6_stepAt l G hok hM rfl (by decide : 15 < 16) hx (by omega)) mf_X6_stepAt mi_X6_stepAt ml_RX6_126 (dk DX6_digest_2 11 rfl) [0, 5, 6, 7, 8] rfl rfl rfl rfl (Nat.le_of_ble_eq_true rfl) rfl rfl ⟨Nat.le_of_ble_eq_true rfl, Nat.le_of_ble_eq_true rfl⟩ ⟨Nat.zero_le _, Nat.zero_le _⟩ (fun r9 w9 hq9 => ?_)
        obtain ⟨rfl, rfl⟩ := hq9
        refine st_i2l C (dk DX6_digest_2 12 rfl) ?_
        refine st_ladd C (dk DX6_digest_2 13 rfl) ?_
        refine st_lstore_n C (dk DX6_digest_2 14 rfl) (by decide) rfl rfl ?_
        refine st_iinc C (dk DX6_digest_2 15 rfl) rfl (iadd_ofInt _ (1) (1) (by decide)) (by decide) rfl ?_
        refine st_goto C (tgt := 130) (dk DX6_digest_2 16 rfl) (by decide) ?_
        exact ih (i + 1) _ _ _ _ _ _ _ _ _ _ (by omega) (up_nI hx) hM (by rw [hh]; exact hN_s _ _ _)
  have loop4 : ∀ (m i : Nat) (x : Int32) (h : Int64) (bo ot : Int32) (f1 : Nat → Int32) (qu fr by9 fa fs : Nat → Int32), i + m = 5 → x = nI i → MRel (fS s) qu fr by9 fa fs → h = hN (fun st => nI (refN s st)) (dg3 s k) i → P 0 0 101 [(0, .ref M), (1, .long h), (3, .int x)] [] [(M, ob 5 (mF A ke ty 0 ap ft bo ot 1)), (A 0, aI G 53 f), (A 1, aI G 53 f1), (A 3, aI G 60 f3), (A 5, aI G 4624 qu), (A 6, aI G 4624 fr), (A 7, aI G 4624 by9), (A 8, aI G 4624 fa), (A 9, aI G 16 fs)] := by
    intro m
    induction m with
    | zero =>
      intro i x h bo ot f1 qu fr by9 fa fs hi hx hM hh
      obtain rfl : i = 5 := by omega
      refine st_iload_n C (dk DX6_digest_1 23 rfl) rfl ?_
      refine st_iconst C (v := 5) (dk DX6_digest_1 24 rfl) (by decide) ?_
      refine st_icmp_ge C (tgt := 128) (dk DX6_digest_1 25 rfl) (by decide) (fun c_103 => ?_) (fun c_103 => ?_)
      · refine st_iconst C (v := 0) (dk DX6_digest_1 38 rfl) (by decide) ?_
        refine st_istore_n C (dk DX6_digest_1 39 rfl) (by decide) rfl ?_
        exact loop5 _ 0 _ _ _ _ _ _ _ _ _ _ (Nat.zero_add _) rfl hM (by rw [hh, hN_0, dg4])
      · exact absurd ((ge_nI (a := 5) (i := 5) (by decide) (by decide) rfl hx).mpr (Nat.le_refl _)) c_103
    | succ m ih =>
      intro i x h bo ot f1 qu fr by9 fa fs hi hx hM hh
      refine st_iload_n C (dk DX6_digest_1 23 rfl) rfl ?_
      refine st_iconst C (v := 5) (dk DX6_digest_1 24 rfl) (by decide) ?_
      refine st_icmp_ge C (tgt := 128) (dk DX6_digest_1 25 rfl) (by decide) (fun c_103 => ?_) (fun c_103 => ?_)
      · exact absurd ((ge_nI (a := 5) (i := i) (by decide) (by omega) rfl hx).mp c_103) (by omega)
      · refine st_ldc2 C (dk DX6_digest_1 26 rfl) kc_RX6_181 ?_
        refine st_lload_n C (dk DX6_digest_1 27 rfl) rfl ?_
        refine st_lmul C (dk DX6_digest_1 28 rfl) ?_
        refine st_aload_n C (dk DX6_digest_1 29 rfl) rfl ?_
        refine st_get C fl_RX6_7 (dk DX6_digest_1 30 rfl) 0 rfl rfl ?_
        refine st_iload_n C (dk DX6_digest_1 31 rfl) rfl ?_
        refine st_cS C (k_X6_refused l G hf hok hx (by omega)) mf_X6_refused ms_X6_refused ml_RX6_116 (dk DX6_digest_1 32 rfl) [1] rfl rfl rfl rfl (Nat.le_of_ble_eq_true rfl) ⟨Nat.le_of_ble_eq_true rfl, Nat.le_of_ble_eq_true rfl⟩ ⟨Nat.zero_le _, Nat.zero_le _⟩ (fun r9 w9 hq9 => ?_)
        obtain ⟨rfl, rfl⟩ := hq9
        refine st_i2l C (dk DX6_digest_1 33 rfl) ?_
        refine st_ladd C (dk DX6_digest_1 34 rfl) ?_
        refine st_lstore_n C (dk DX6_digest_1 35 rfl) (by decide) rfl rfl ?_
        refine st_iinc C (dk DX6_digest_1 36 rfl) rfl (iadd_ofInt _ (1) (1) (by decide)) (by decide) rfl ?_
        refine st_goto C (tgt := 101) (dk DX6_digest_1 37 rfl) (by decide) ?_
        exact ih (i + 1) _ _ _ _ _ _ _ _ _ _ (by omega) (up_nI hx) hM (by rw [hh]; exact hN_s _ _ _)
  have loop3 : ∀ (m i : Nat) (x : Int32) (h : Int64) (bo ot : Int32) (f1 : Nat → Int32) (qu fr by9 fa fs : Nat → Int32), i + m = 112 → x = nI i → MRel (fS s) qu fr by9 fa fs → h = hN (fun j => ofI s (j / 7) (j % 7)) (dg2 s k) i → P 0 0 67 [(0, .ref M), (1, .long h), (3, .int x)] [] [(M, ob 5 (mF A ke ty 0 ap ft bo ot 1)), (A 0, aI G 53 f), (A 1, aI G 53 f1), (A 3, aI G 60 f3), (A 5, aI G 4624 qu), (A 6, aI G 4624 fr), (A 7, aI G 4624 by9), (A 8, aI G 4624 fa), (A 9, aI G 16 fs)] := by
    intro m
    induction m with
    | zero =>
      intro i x h bo ot f1 qu fr by9 fa fs hi hx hM hh
      obtain rfl : i = 112 := by omega
      refine st_iload_n C (dk DX6_digest_1 2 rfl) rfl ?_
      refine st_bipush C (v := 112) (dk DX6_digest_1 3 rfl) (by decide) ?_
      refine st_icmp_ge C (tgt := 99) (dk DX6_digest_1 4 rfl) (by decide) (fun c_70 => ?_) (fun c_70 => ?_)
      · refine st_iconst C (v := 0) (dk DX6_digest_1 21 rfl) (by decide) ?_
        refine st_istore_n C (dk DX6_digest_1 22 rfl) (by decide) rfl ?_
        exact loop4 5 0 _ _ _ _ _ _ _ _ _ _ (by omega) rfl hM (by rw [hh, hN_0, dg3])
      · exact absurd ((ge_nI (a := 112) (i := 112) (by decide) (by decide) rfl hx).mpr (Nat.le_refl _)) c_70
    | succ m ih =>
      intro i x h bo ot f1 qu fr by9 fa fs hi hx hM hh
      have hdv : x / 7 = nI (i / 7) := by rw [hx, show (7 : Int32) = nI 7 from rfl, pk_div (by omega) (by decide) (by decide)]
      have hrm : x - x / 7 * 7 = nI (i % 7) := by
        rw [hdv, hx, show (7 : Int32) = nI 7 from rfl, pk_mul, pk_sub (by omega)]
        congr 1
        omega
      refine st_iload_n C (dk DX6_digest_1 2 rfl) rfl ?_
      refine st_bipush C (v := 112) (dk DX6_digest_1 3 rfl) (by decide) ?_
      refine st_icmp_ge C (tgt := 99) (dk DX6_digest_1 4 rfl) (by decide) (fun c_70 => ?_) (fun c_70 => ?_)
      · exact absurd ((ge_nI (a := 112) (i := i) (by decide) (by omega) rfl hx).mp c_70) (by omega)
      · refine st_ldc2 C (dk DX6_digest_1 5 rfl) kc_RX6_181 ?_
        refine st_lload_n C (dk DX6_digest_1 6 rfl) rfl ?_
        refine st_lmul C (dk DX6_digest_1 7 rfl) ?_
        refine st_aload_n C (dk DX6_digest_1 8 rfl) rfl ?_
        refine st_iload_n C (dk DX6_digest_1 9 rfl) rfl ?_
        refine st_bipush C (v := 7) (dk DX6_digest_1 10 rfl) (by decide) ?_
        refine st_idiv C (dk DX6_digest_1 11 rfl) (by decide) ?_
        refine st_iload_n C (dk DX6_digest_1 12 rfl) rfl ?_
        refine st_bipush C (v := 7) (dk DX6_digest_1 13 rfl) (by decide) ?_
        refine st_irem C (dk DX6_digest_1 14 rfl) (by decide) ?_
        refine st_cV C (k_X6_ofCell l G hf hok (Or.inr ⟨rfl, hM⟩) hdv (by omega) hrm (by omega)) mf_X6_ofCell mi_X6_ofCell ml_RX6_146 (dk DX6_digest_1 15 rfl) [0, 1, 4, 5, 6, 7, 8] rfl rfl rfl rfl (Nat.le_of_ble_eq_true rfl) rfl rfl ⟨Nat.le_of_ble_eq_true rfl, Nat.le_of_ble_eq_true rfl⟩ ⟨Nat.zero_le _, Nat.zero_le _⟩ (fun r9 w9 hq9 => ?_)
        obtain ⟨rfl, bo87, ot87, qu87, fr87, by87, fa87, fs87, hM87, rfl⟩ := hq9
        refine st_i2l C (dk DX6_digest_1 16 rfl) ?_
        refine st_ladd C (dk DX6_digest_1 17 rfl) ?_
        refine st_lstore_n C (dk DX6_digest_1 18 rfl) (by decide) rfl rfl ?_
        refine st_iinc C (dk DX6_digest_1 19 rfl) rfl (iadd_ofInt _ (1) (1) (by decide)) (by decide) rfl ?_
        refine st_goto C (tgt := 67) (dk DX6_digest_1 20 rfl) (by decide) ?_
        exact ih (i + 1) _ _ _ _ _ _ _ _ _ _ (by omega) (up_nI hx) hM87 (by rw [hh]; exact hN_s _ _ _)
  have loop2 : ∀ (m i : Nat) (x : Int32) (h : Int64) (bo ot : Int32) (f1 : Nat → Int32) (qu fr by9 fa fs : Nat → Int32), i + m = 5 → x = nI i → MRel (fS s) qu fr by9 fa fs → h = hN (fun w => nI (s (1 + w))) (dg1 s k) i → P 0 0 38 [(0, .ref M), (1, .long h), (3, .int x)] [] [(M, ob 5 (mF A ke ty 0 ap ft bo ot 1)), (A 0, aI G 53 f), (A 1, aI G 53 f1), (A 3, aI G 60 f3), (A 5, aI G 4624 qu), (A 6, aI G 4624 fr), (A 7, aI G 4624 by9), (A 8, aI G 4624 fa), (A 9, aI G 16 fs)] := by
    intro m
    induction m with
    | zero =>
      intro i x h bo ot f1 qu fr by9 fa fs hi hx hM hh
      obtain rfl : i = 5 := by omega
      refine st_iload_n C (dk DX6_digest_0 23 rfl) rfl ?_
      refine st_iconst C (v := 5) (dk DX6_digest_0 24 rfl) (by decide) ?_
      refine st_icmp_ge C (tgt := 65) (dk DX6_digest_0 25 rfl) (by decide) (fun c_40 => ?_) (fun c_40 => ?_)
      · refine st_iconst C (v := 0) (dk DX6_digest_1 0 rfl) (by decide) ?_
        refine st_istore_n C (dk DX6_digest_1 1 rfl) (by decide) rfl ?_
        exact loop3 112 0 _ _ _ _ _ _ _ _ _ _ (by omega) rfl hM (by rw [hh, hN_0, dg2])
      · exact absurd ((ge_nI (a := 5) (i := 5) (by decide) (by decide) rfl hx).mpr (Nat.le_refl _)) c_40
    | succ m ih =>
      intro i x h bo ot f1 qu fr by9 fa fs hi hx hM hh
      refine st_iload_n C (dk DX6_digest_0 23 rfl) rfl ?_
      refine st_iconst C (v := 5) (dk DX6_digest_0 24 rfl) (by decide) ?_
      refine st_icmp_ge C (tgt := 65) (dk DX6_digest_0 25 rfl) (by decide) (fun c_40 => ?_) (fun c_40 => ?_)
      · exact absurd ((ge_nI (a := 5) (i := i) (by decide) (by omega) rfl hx).mp c_40) (by omega)
      · refine st_ldc2 C (dk DX6_digest_0 26 rfl) kc_RX6_181 ?_
        refine st_lload_n C (dk DX6_digest_0 27 rfl) rfl ?_
        refine st_lmul C (dk DX6_digest_0 28 rfl) ?_
        refine st_aload_n C (dk DX6_digest_0 29 rfl) rfl ?_
        refine st_get C fl_RX6_7 (dk DX6_digest_0 30 rfl) 0 rfl rfl ?_
        refine st_iconst C (v := 1) (dk DX6_digest_0 31 rfl) (by decide) ?_
        refine st_iload_n C (dk DX6_digest_0 32 rfl) rfl ?_
        refine st_iadd C (dk DX6_digest_0 33 rfl) ?_
        refine st_iald C (dk DX6_digest_0 34 rfl) 1 rfl (by rw [hx]; exact vpA (k := 1) rfl (by omega) (by decide)) ?_
        rw [show f ((1 : Int32) + x).toNatClampNeg = nI (s (1 + i)) by rw [hx]; exact hf.at (nadd 1 i (x := 1) rfl) (by omega)]
        refine st_i2l C (dk DX6_digest_0 35 rfl) ?_
        refine st_ladd C (dk DX6_digest_0 36 rfl) ?_
        refine st_lstore_n C (dk DX6_digest_0 37 rfl) (by decide) rfl rfl ?_
        refine st_iinc C (dk DX6_digest_0 38 rfl) rfl (iadd_ofInt _ (1) (1) (by decide)) (by decide) rfl ?_
        refine st_goto C (tgt := 38) (dk DX6_digest_0 39 rfl) (by decide) ?_
        exact ih (i + 1) _ _ _ _ _ _ _ _ _ _ (by omega) (up_nI hx) hM (by rw [hh]; exact hN_s _ _ _)
  have loop1 : ∀ (m i : Nat) (x : Int32) (h : Int64) (bo ot il : Int32) (f1 : Nat → Int32) (qu fr by9 fa fs : Nat → Int32), i + m = 7 → x = nI i → (il = 0 ∨ (il = 1 ∧ MRel (fS s) qu fr by9 fa fs)) → (0 < i → il = 1 ∧ MRel (fS s) qu fr by9 fa fs) → h = hN (coI s k) 3319 i → P 0 0 11 [(0, .ref M), (1, .long h), (3, .int x)] [] [(M, ob 5 (mF A ke ty 0 ap ft bo ot il)), (A 0, aI G 53 f), (A 1, aI G 53 f1), (A 3, aI G 60 f3), (A 5, aI G 4624 qu), (A 6, aI G 4624 fr), (A 7, aI G 4624 by9), (A 8, aI G 4624 fa), (A 9, aI G 16 fs)] := by
    intro m
    induction m with
    | zero =>
      intro i x h bo ot il f1 qu fr by9 fa fs hi hx hil hi1 hh
      obtain rfl : i = 7 := by omega
      refine st_iload_n C (dk DX6_digest_0 7 rfl) rfl ?_
      refine st_bipush C (v := 7) (dk DX6_digest_0 8 rfl) (by decide) ?_
      refine st_icmp_ge C (tgt := 36) (dk DX6_digest_0 9 rfl) (by decide) (fun c_14 => ?_) (fun c_14 => ?_)
      · refine st_iconst C (v := 0) (dk DX6_digest_0 21 rfl) (by decide) ?_
        refine st_istore_n C (dk DX6_digest_0 22 rfl) (by decide) rfl ?_
        obtain ⟨rfl, hM⟩ := hi1 (by omega)
        exact loop2 5 0 _ _ _ _ _ _ _ _ _ _ (by omega) rfl hM (by rw [hh, hN_0, dg1])
      · exact absurd ((ge_nI (a := 7) (i := 7) (by decide) (by decide) rfl hx).mpr (Nat.le_refl _)) c_14
    | succ m ih =>
      intro i x h bo ot il f1 qu fr by9 fa fs hi hx hil hi1 hh
      refine st_iload_n C (dk DX6_digest_0 7 rfl) rfl ?_
      refine st_bipush C (v := 7) (dk DX6_digest_0 8 rfl) (by decide) ?_
      refine st_icmp_ge C (tgt := 36) (dk DX6_digest_0 9 rfl) (by decide) (fun c_14 => ?_) (fun c_14 => ?_)
      · exact absurd ((ge_nI (a := 7) (i := i) (by decide) (by omega) rfl hx).mp c_14) (by omega)
      · refine st_ldc2 C (dk DX6_digest_0 10 rfl) kc_RX6_181 ?_
        refine st_lload_n C (dk DX6_digest_0 11 rfl) rfl ?_
        refine st_lmul C (dk DX6_digest_0 12 rfl) ?_
        refine st_aload_n C (dk DX6_digest_0 13 rfl) rfl ?_
        refine st_iload_n C (dk DX6_digest_0 14 rfl) rfl ?_
        refine st_cV C (k_X6_counted l G hf hok hil hke hx (by omega)) mf_X6_counted mi_X6_counted ml_RX6_164 (dk DX6_digest_0 15 rfl) [0, 1, 4, 5, 6, 7, 8] rfl rfl rfl rfl (Nat.le_of_ble_eq_true rfl) rfl rfl ⟨Nat.le_of_ble_eq_true rfl, Nat.le_of_ble_eq_true rfl⟩ ⟨Nat.zero_le _, Nat.zero_le _⟩ (fun r9 w9 hq9 => ?_)
        obtain ⟨rfl, bo24, ot24, qu24, fr24, by24, fa24, fs24, hM24, rfl⟩ := hq9
        refine st_i2l C (dk DX6_digest_0 16 rfl) ?_
        refine st_ladd C (dk DX6_digest_0 17 rfl) ?_
        refine st_lstore_n C (dk DX6_digest_0 18 rfl) (by decide) rfl rfl ?_
        refine st_iinc C (dk DX6_digest_0 19 rfl) rfl (iadd_ofInt _ (1) (1) (by decide)) (by decide) rfl ?_
        refine st_goto C (tgt := 11) (dk DX6_digest_0 20 rfl) (by decide) ?_
        exact ih (i + 1) _ _ _ _ _ _ _ _ _ _ _ (by omega) (up_nI hx) (Or.inr ⟨rfl, hM24⟩) (fun _ => ⟨rfl, hM24⟩) (by rw [hh]; exact hN_s _ _ _)
  refine st_aload_n C (dk DX6_digest_0 0 rfl) rfl ?_
  refine st_iconst C (v := 0) (dk DX6_digest_0 1 rfl) (by decide) ?_
  refine st_put C fl_RX6_40 fc_5 fw_5_6 (dk DX6_digest_0 2 rfl) 0 rfl rfl rfl (Nat.le_of_ble_eq_true rfl) ?_
  refine st_ldc2 C (dk DX6_digest_0 3 rfl) kc_RX6_179 ?_
  refine st_lstore_n C (dk DX6_digest_0 4 rfl) (by decide) rfl rfl ?_
  refine st_iconst C (v := 0) (dk DX6_digest_0 5 rfl) (by decide) ?_
  refine st_istore_n C (dk DX6_digest_0 6 rfl) (by decide) rfl ?_
  exact loop1 7 0 _ _ _ _ _ _ _ _ _ _ _ (by omega) rfl hil (fun h9 => absurd h9 (Nat.lt_irrefl 0)) (hN_0 _ _).symm
