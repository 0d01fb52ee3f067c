/-! the reference: plans and looks -/
set_option maxHeartbeats 4000000 in
set_option maxRecDepth 100000 in
theorem k_X6_thrown (l : Launch) (G : wG) {M : Nat} {A : Nat → Nat} {ke ty th ap ft bo ot il : Int32} : Con0 l G yX6_thrown cX6_thrown 1 (some .int) 0 [.ref M] [(M, ob 5 (mF A ke ty th ap ft bo ot il))] (fun r v9 => r = some (.int (th)) ∧ v9 = [(M, ob 5 (mF A ke ty th ap ft bo ot il))]) := by
  refine Con.mk (by decide +kernel) (Nat.le_of_ble_eq_true rfl) (fun P C Rr => ?_)
  refine st_aload_n C (dk DX6_thrown_0 0 rfl) rfl ?_
  refine st_get C fl_RX6_40 (dk DX6_thrown_0 1 rfl) 0 rfl rfl ?_
  exact Rr 0 0 _ _ _ _ _ _ (Nat.zero_le _) (Nat.zero_le _) (dk DX6_thrown_0 2 rfl) (.inr (.inl ⟨_, rfl, rfl, rfl, rfl⟩)) rfl ⟨rfl, ⟨rfl, rfl⟩⟩
set_option maxHeartbeats 4000000 in
set_option maxRecDepth 100000 in
theorem k_X6_fails (l : Launch) (G : wG) {M : Nat} {A : Nat → Nat} {ke ty th ap ft bo ot il : Int32} {v : Int32} : Con0 l G yX6_fails cX6_fails 2 (some .int) 0 [.ref M, .int v] [(M, ob 5 (mF A ke ty th ap ft bo ot il))] (fun r v9 => r = some (.int (0)) ∧ v9 = [(M, ob 5 (mF A ke ty v ap ft bo ot il))]) := by
  refine Con.mk (by decide +kernel) (Nat.le_of_ble_eq_true rfl) (fun P C Rr => ?_)
  refine st_aload_n C (dk DX6_fails_0 0 rfl) rfl ?_
  refine st_iload_n C (dk DX6_fails_0 1 rfl) rfl ?_
  refine st_put C fl_RX6_40 fc_5 fw_5_6 (dk DX6_fails_0 2 rfl) 0 rfl rfl rfl (Nat.le_of_ble_eq_true rfl) ?_
  refine st_iconst C (v := 0) (dk DX6_fails_0 3 rfl) (by decide) ?_
  exact Rr 0 0 _ _ _ _ _ _ (Nat.zero_le _) (Nat.zero_le _) (dk DX6_fails_0 4 rfl) (.inr (.inl ⟨_, rfl, rfl, rfl, rfl⟩)) rfl ⟨rfl, ⟨rfl, rfl⟩⟩
set_option maxHeartbeats 4000000 in
set_option maxRecDepth 100000 in
theorem k_X6_laysNow (l : Launch) (G : wG) {M : Nat} {A : Nat → Nat} {ke ty th ap ft bo ot il : Int32} {s : mS} {f : Nat → Int32} {qu fr by9 fa fs : Nat → Int32} (hf : hd53 f s) (hok : mOk s) (hil : il = 0 ∨ (il = 1 ∧ MRel (fS s) qu fr by9 fa fs)) : Con0 l G yX6_laysNow cX6_laysNow 1 none 6 [.ref M] [(M, ob 5 (mF A ke ty th ap ft bo ot il)), (A 0, aI G 53 f), (A 5, aI G 4624 qu), (A 6, aI G 4624 fr), (A 7, aI G 4624 by9), (A 8, aI G 4624 fa), (A 9, aI G 16 fs)] (fun r v9 => r = none ∧ ∃ (bo9 ot9 : Int32) (qu9 fr9 by99 fa9 fs9 : Nat → Int32), MRel (fS s) qu9 fr9 by99 fa9 fs9 ∧ v9 = [(M, ob 5 (mF A ke ty th ap ft bo9 ot9 1)), (A 0, aI G 53 f), (A 5, aI G 4624 qu9), (A 6, aI G 4624 fr9), (A 7, aI G 4624 by99), (A 8, aI G 4624 fa9), (A 9, aI G 16 fs9)]) := by
  refine Con.mk (by decide +kernel) (Nat.le_of_ble_eq_true rfl) (fun P C Rr => ?_)
  refine st_aload_n C (dk DX6_laysNow_0 0 rfl) rfl ?_
  refine st_get C fl_RX6_48 (dk DX6_laysNow_0 1 rfl) 0 rfl rfl ?_
  refine st_if_ne C (tgt := 20) (dk DX6_laysNow_0 2 rfl) (by decide) (fun c_4 => ?_) (fun c_4 => ?_)
  · exact Rr 0 0 _ _ _ _ _ _ (Nat.zero_le _) (Nat.zero_le _) (dk DX6_laysNow_0 10 rfl) (.inl ⟨rfl, rfl, rfl, rfl⟩) rfl ⟨rfl, ⟨rfl, bo, ot, qu, fr, by9, fa, fs, (hil.resolve_left c_4).2, by rw [(hil.resolve_left c_4).1]; rfl⟩⟩
  · refine st_aload_n C (dk DX6_laysNow_0 3 rfl) rfl ?_
    refine st_aload_n C (dk DX6_laysNow_0 4 rfl) rfl ?_
    refine st_get C fl_RX6_7 (dk DX6_laysNow_0 5 rfl) 0 rfl rfl ?_
    refine st_cV C (k_X6_lays l G hf hok) mf_X6_lays mi_X6_lays ml_RX6_98 (dk DX6_laysNow_0 6 rfl) [0, 2, 3, 4, 5, 6, 1] rfl rfl rfl rfl (Nat.le_of_ble_eq_true rfl) rfl rfl ⟨Nat.le_of_ble_eq_true rfl, Nat.le_of_ble_eq_true rfl⟩ ⟨Nat.zero_le _, Nat.zero_le _⟩ (fun r9 w9 hq9 => ?_)
    obtain ⟨rfl, qu12, fr12, by12, fa12, fs12, hM12, rfl⟩ := hq9
    refine st_aload_n C (dk DX6_laysNow_0 7 rfl) rfl ?_
    refine st_iconst C (v := 1) (dk DX6_laysNow_0 8 rfl) (by decide) ?_
    refine st_put C fl_RX6_48 fc_5 fw_5_17 (dk DX6_laysNow_0 9 rfl) 0 rfl rfl rfl (Nat.le_of_ble_eq_true rfl) ?_
    exact Rr 0 0 _ _ _ _ _ _ (Nat.zero_le _) (Nat.zero_le _) (dk DX6_laysNow_0 10 rfl) (.inl ⟨rfl, rfl, rfl, rfl⟩) rfl ⟨rfl, ⟨rfl, _, _, _, _, _, _, _, hM12, rfl⟩⟩
set_option maxHeartbeats 4000000 in
set_option maxRecDepth 100000 in
theorem k_X6_steps (l : Launch) (G : wG) {M : Nat} {A : Nat → Nat} {ke ty th ap ft bo ot il : Int32} {s : mS} {qu fr by9 fa fs : Nat → Int32} {x : Int32} {c : Nat} (hok : mOk s) (hM : MRel (fS s) qu fr by9 fa fs) (hx : x = nI c) (hc : c < 16) : Con0 l G yX6_steps cX6_steps 2 (some .int) 0 [.ref M, .int x] [(M, ob 5 (mF A ke ty th ap ft bo ot il)), (A 8, aI G 4624 fa), (A 9, aI G 16 fs)] (fun r v9 => r = some (.int (lnOf (fS s) c)) ∧ v9 = [(M, ob 5 (mF A ke ty th ap ft bo ot il)), (A 8, aI G 4624 fa), (A 9, aI G 16 fs)]) := by
  refine Con.mk (by decide +kernel) (Nat.le_of_ble_eq_true rfl) (fun P C Rr => ?_)
  have hfs : fs x.toNatClampNeg = fsOf (fS s) c := by rw [cl_nI hx (by omega)]; exact hM.2.2.2 c hc
  refine st_aload_n C (dk DX6_steps_0 0 rfl) rfl ?_
  refine st_get C fl_RX6_37 (dk DX6_steps_0 1 rfl) 0 rfl rfl ?_
  refine st_iload_n C (dk DX6_steps_0 2 rfl) rfl ?_
  refine st_iald C (dk DX6_steps_0 3 rfl) 2 rfl (vp_nI hx hc (by decide)) ?_
  refine st_iconst C (v := -1) (dk DX6_steps_0 4 rfl) (by decide) ?_
  refine st_icmp_ne C (tgt := 14) (dk DX6_steps_0 5 rfl) (by decide) (fun c_7 => ?_) (fun c_7 => ?_)
  · obtain ⟨i, hq⟩ : ∃ i, fi (fS s) c = some i := by
      cases hq : fi (fS s) c with
      | none => exact absurd (by rw [hfs, fsOf_none hq]) c_7
      | some i => exact ⟨i, rfl⟩
    refine st_aload_n C (dk DX6_steps_0 8 rfl) rfl ?_
    refine st_get C fl_RX6_34 (dk DX6_steps_0 9 rfl) 0 rfl rfl ?_
    refine st_aload_n C (dk DX6_steps_0 10 rfl) rfl ?_
    refine st_get C fl_RX6_37 (dk DX6_steps_0 11 rfl) 0 rfl rfl ?_
    refine st_iload_n C (dk DX6_steps_0 12 rfl) rfl ?_
    refine st_iald C (dk DX6_steps_0 13 rfl) 2 rfl (vp_nI hx hc (by decide)) ?_
    refine st_iald C (dk DX6_steps_0 14 rfl) 1 rfl (by rw [hfs, fsOf_some hq]; exact vp_in_nI (fS_emN hok (fi_lt' hq)) (by decide)) ?_
    refine Rr 0 0 _ _ _ _ _ _ (Nat.zero_le _) (Nat.zero_le _) (dk DX6_steps_0 15 rfl) (.inr (.inl ⟨_, rfl, rfl, rfl, rfl⟩)) rfl ?_
    refine ⟨rfl, ?_, rfl⟩
    rw [lnOf_some hq, hfs, fsOf_some hq, nI_clamp (by have := fS_emN hok (fi_lt' hq); omega), (hM.at hok (fi_lt' hq)).1]
  · refine st_iconst C (v := -1) (dk DX6_steps_0 6 rfl) (by decide) ?_
    refine st_goto C (tgt := 25) (dk DX6_steps_0 7 rfl) (by decide) ?_
    refine Rr 0 0 _ _ _ _ _ _ (Nat.zero_le _) (Nat.zero_le _) (dk DX6_steps_0 15 rfl) (.inr (.inl ⟨_, rfl, rfl, rfl, rfl⟩)) rfl ?_
    refine ⟨rfl, ?_, rfl⟩
    cases hq : fi (fS s) c with
    | none => rw [lnOf_none hq]
    | some i =>
      rw [hfs, fsOf_some hq] at c_7
      exact absurd c_7 (nI_m1 (by have := fS_emN hok (fi_lt' hq); omega))
set_option maxHeartbeats 4000000 in
set_option maxRecDepth 100000 in
theorem k_X6_stepAt (l : Launch) (G : wG) {M : Nat} {A : Nat → Nat} {ke ty th ap ft bo ot il : Int32} {s : mS} {qu fr by9 fa fs : Nat → Int32} {x y : Int32} {c a : Nat} (hok : mOk s) (hM : MRel (fS s) qu fr by9 fa fs) (hx : x = nI c) (hc : c < 16) (hy : y = nI a) (ha : a < 2 ^ 31) : Con0 l G yX6_stepAt cX6_stepAt 4 (some .int) 1 [.ref M, .int x, .int y] [(M, ob 5 (mF A ke ty th ap ft bo ot il)), (A 6, aI G 4624 fr), (A 7, aI G 4624 by9), (A 8, aI G 4624 fa), (A 9, aI G 16 fs)] (fun r v9 => r = some (.int (plI (fS s) c a)) ∧ v9 = [(M, ob 5 (mF A ke ty th ap ft bo ot il)), (A 6, aI G 4624 fr), (A 7, aI G 4624 by9), (A 8, aI G 4624 fa), (A 9, aI G 16 fs)]) := by
  refine Con.mk (by decide +kernel) (Nat.le_of_ble_eq_true rfl) (fun P C Rr => ?_)
  subst hy
  have loop : ∀ (m j : Nat), j < (fS s).length → dst (fS s) j = a + 1 + m → plI (fS s) c a = nI (eAt (fS s) (anc (fS s) j m)).2.1 → P 0 0 18 [(0, .ref M), (1, .int x), (2, .int (nI a)), (3, .int (nI (emN (eAt (fS s) j).1)))] [] [(M, ob 5 (mF A ke ty th ap ft bo ot il)), (A 6, aI G 4624 fr), (A 7, aI G 4624 by9), (A 8, aI G 4624 fa), (A 9, aI G 16 fs)] := by
    intro m
    induction m with
    | zero =>
      intro j hj hd hr
      obtain ⟨p1, p2, p3⟩ := par_of (fS_ok hok) hj (by omega)
      have hs := dst_small hok hj
      have he := fS_emN hok hj
      have hat := hM.at hok hj
      refine st_aload_n C (dk DX6_stepAt_0 12 rfl) rfl ?_
      refine st_get C fl_RX6_34 (dk DX6_stepAt_0 13 rfl) 0 rfl rfl ?_
      refine st_iload_n C (dk DX6_stepAt_0 14 rfl) rfl ?_
      refine st_iald C (dk DX6_stepAt_0 15 rfl) 3 rfl (vp_in_nI he (by decide)) ?_
      rw [show fa (nI (emN (eAt (fS s) j).1)).toNatClampNeg = nI (dst (fS s) j) by rw [nI_clamp (by omega)]; exact hat.1]
      refine st_iload_n C (dk DX6_stepAt_0 16 rfl) rfl ?_
      refine st_iconst C (v := 1) (dk DX6_stepAt_0 17 rfl) (by decide) ?_
      refine st_iadd C (dk DX6_stepAt_0 18 rfl) ?_
      refine st_icmp_le C (tgt := 40) (dk DX6_stepAt_0 19 rfl) (by decide) (fun c_27 => ?_) (fun c_27 => ?_)
      · refine st_aload_n C (dk DX6_stepAt_0 26 rfl) rfl ?_
        refine st_get C fl_RX6_31 (dk DX6_stepAt_0 27 rfl) 0 rfl rfl ?_
        refine st_iload_n C (dk DX6_stepAt_0 28 rfl) rfl ?_
        refine st_iald C (dk DX6_stepAt_0 29 rfl) 2 rfl (vp_in_nI he (by decide)) ?_
        refine Rr 0 0 _ _ _ _ _ _ (Nat.zero_le _) (Nat.zero_le _) (dk DX6_stepAt_0 30 rfl) (.inr (.inl ⟨_, rfl, rfl, rfl, rfl⟩)) rfl ?_
        refine ⟨rfl, ?_, rfl⟩
        rw [hr, nI_clamp (by omega), (hat.2 p3).2]
        rfl
      · exact absurd ((ge_nI (a := dst (fS s) j) (i := a + 1) (by omega) (by omega) rfl (nI_1 a)).mpr (by omega)) c_27
    | succ m ih =>
      intro j hj hd hr
      obtain ⟨p1, p2, p3⟩ := par_of (fS_ok hok) hj (by omega)
      have hs := dst_small hok hj
      have he := fS_emN hok hj
      have hat := hM.at hok hj
      refine st_aload_n C (dk DX6_stepAt_0 12 rfl) rfl ?_
      refine st_get C fl_RX6_34 (dk DX6_stepAt_0 13 rfl) 0 rfl rfl ?_
      refine st_iload_n C (dk DX6_stepAt_0 14 rfl) rfl ?_
      refine st_iald C (dk DX6_stepAt_0 15 rfl) 3 rfl (vp_in_nI he (by decide)) ?_
      rw [show fa (nI (emN (eAt (fS s) j).1)).toNatClampNeg = nI (dst (fS s) j) by rw [nI_clamp (by omega)]; exact hat.1]
      refine st_iload_n C (dk DX6_stepAt_0 16 rfl) rfl ?_
      refine st_iconst C (v := 1) (dk DX6_stepAt_0 17 rfl) (by decide) ?_
      refine st_iadd C (dk DX6_stepAt_0 18 rfl) ?_
      refine st_icmp_le C (tgt := 40) (dk DX6_stepAt_0 19 rfl) (by decide) (fun c_27 => ?_) (fun c_27 => ?_)
      · exact absurd ((ge_nI (a := dst (fS s) j) (i := a + 1) (by omega) (by omega) rfl (nI_1 a)).mp c_27) (by omega)
      · refine st_aload_n C (dk DX6_stepAt_0 20 rfl) rfl ?_
        refine st_get C fl_RX6_28 (dk DX6_stepAt_0 21 rfl) 0 rfl rfl ?_
        refine st_iload_n C (dk DX6_stepAt_0 22 rfl) rfl ?_
        refine st_iald C (dk DX6_stepAt_0 23 rfl) 1 rfl (vp_in_nI he (by decide)) ?_
        rw [show fr (nI (emN (eAt (fS s) j).1)).toNatClampNeg = nI (emN (eAt (fS s) (eAt (fS s) j).2.2.1).1) by rw [nI_clamp (by omega)]; exact (hat.2 p3).1]
        refine st_istore_n C (dk DX6_stepAt_0 24 rfl) (by decide) rfl ?_
        refine st_goto C (tgt := 18) (dk DX6_stepAt_0 25 rfl) (by decide) ?_
        exact ih _ (by omega) (by omega) hr
  refine st_iload_n C (dk DX6_stepAt_0 0 rfl) rfl ?_
  refine st_aload_n C (dk DX6_stepAt_0 1 rfl) rfl ?_
  refine st_iload_n C (dk DX6_stepAt_0 2 rfl) rfl ?_
  refine st_cV C (k_X6_steps l G hok hM hx hc) mf_X6_steps mi_X6_steps ml_RX6_102 (dk DX6_stepAt_0 3 rfl) [0, 3, 4] rfl rfl rfl rfl (Nat.le_of_ble_eq_true rfl) rfl rfl ⟨Nat.le_of_ble_eq_true rfl, Nat.le_of_ble_eq_true rfl⟩ ⟨Nat.zero_le _, Nat.zero_le _⟩ (fun r9 w9 hq9 => ?_)
  obtain ⟨rfl, rfl⟩ := hq9
  refine st_icmp_lt C (tgt := 11) (dk DX6_stepAt_0 4 rfl) (by decide) (fun c_6 => ?_) (fun c_6 => ?_)
  · obtain ⟨i, hq⟩ : ∃ i, fi (fS s) c = some i := by
      cases hq : fi (fS s) c with
      | none =>
        rw [lnOf_none hq] at c_6
        exact absurd c_6 (by intro h; rw [Int32.lt_iff_toInt_lt, nI_toInt ha] at h; have : ((-1 : Int32)).toInt = -1 := by decide
                             omega)
      | some i => exact ⟨i, rfl⟩
    have hs0 := dst_small hok (fi_lt' hq)
    have had : a < dst (fS s) i := by rw [lnOf_some hq] at c_6; exact (nI_ltI ha (by omega)).mp c_6
    refine st_aload_n C (dk DX6_stepAt_0 7 rfl) rfl ?_
    refine st_get C fl_RX6_37 (dk DX6_stepAt_0 8 rfl) 0 rfl rfl ?_
    refine st_iload_n C (dk DX6_stepAt_0 9 rfl) rfl ?_
    refine st_iald C (dk DX6_stepAt_0 10 rfl) 4 rfl (vp_nI hx hc (by decide)) ?_
    rw [show fs x.toNatClampNeg = nI (emN (eAt (fS s) i).1) by rw [cl_nI hx (by omega), hM.2.2.2 c hc, fsOf_some hq]]
    refine st_istore_n C (dk DX6_stepAt_0 11 rfl) (by decide) rfl ?_
    exact loop (dst (fS s) i - 1 - a) i (fi_lt' hq) (by omega) (by rw [plI_some hq, if_pos had])
  · refine st_iconst C (v := -1) (dk DX6_stepAt_0 5 rfl) (by decide) ?_
    refine Rr 0 0 _ _ _ _ _ _ (Nat.zero_le _) (Nat.zero_le _) (dk DX6_stepAt_0 6 rfl) (.inr (.inl ⟨_, rfl, rfl, rfl, rfl⟩)) rfl ?_
    refine ⟨rfl, ?_, rfl⟩
    cases hq : fi (fS s) c with
    | none => rw [plI_none hq]
    | some i =>
      have hs0 := dst_small hok (fi_lt' hq)
      rw [plI_some hq, if_neg]
      intro had
      rw [lnOf_some hq] at c_6
      exact c_6 ((nI_ltI ha (by omega)).mpr had)
set_option maxHeartbeats 4000000 in
set_option maxRecDepth 100000 in
theorem k_X6_reachable (l : Launch) (G : wG) {M : Nat} {A : Nat → Nat} {ke ty th ap ft bo ot il : Int32} {s : mS} {qu fr by9 fa fs : Nat → Int32} (hok : mOk s) (hM : MRel (fS s) qu fr by9 fa fs) : Con0 l G yX6_reachable cX6_reachable 3 (some .int) 0 [.ref M] [(M, ob 5 (mF A ke ty th ap ft bo ot il)), (A 9, aI G 16 fs)] (fun r v9 => r = some (.int (nI (cnt (fS s) 16))) ∧ v9 = [(M, ob 5 (mF A ke ty th ap ft bo ot il)), (A 9, aI G 16 fs)]) := by
  refine Con.mk (by decide +kernel) (Nat.le_of_ble_eq_true rfl) (fun P C Rr => ?_)
  have loop : ∀ (m i : Nat) (x : Int32) (acc : Int32), i + m = 16 → x = nI i → acc = nI (cnt (fS s) i) → P 0 0 4 [(0, .ref M), (1, .int acc), (2, .int x)] [] [(M, ob 5 (mF A ke ty th ap ft bo ot il)), (A 9, aI G 16 fs)] := by
    intro m
    induction m with
    | zero =>
      intro i x acc hi hx hacc
      obtain rfl : i = 16 := by omega
      refine st_iload_n C (dk DX6_reachable_0 4 rfl) rfl ?_
      refine st_bipush C (v := 16) (dk DX6_reachable_0 5 rfl) (by decide) ?_
      refine st_icmp_ge C (tgt := 34) (dk DX6_reachable_0 6 rfl) (by decide) (fun c_7 => ?_) (fun c_7 => ?_)
      · refine st_iload_n C (dk DX6_reachable_0 21 rfl) rfl ?_
        exact Rr 0 0 _ _ _ _ _ _ (Nat.zero_le _) (Nat.zero_le _) (dk DX6_reachable_0 22 rfl) (.inr (.inl ⟨_, rfl, rfl, rfl, rfl⟩)) rfl ⟨rfl, ⟨by rw [hacc], rfl⟩⟩
      · exact absurd ((ge_nI (a := 16) (i := 16) (by decide) (by decide) rfl hx).mpr (Nat.le_refl _)) c_7
    | succ m ih =>
      intro i x acc hi hx hacc
      have hfs : fs x.toNatClampNeg = fsOf (fS s) i := by rw [cl_nI hx (by omega)]; exact hM.2.2.2 i (by omega)
      refine st_iload_n C (dk DX6_reachable_0 4 rfl) rfl ?_
      refine st_bipush C (v := 16) (dk DX6_reachable_0 5 rfl) (by decide) ?_
      refine st_icmp_ge C (tgt := 34) (dk DX6_reachable_0 6 rfl) (by decide) (fun c_7 => ?_) (fun c_7 => ?_)
      · exact absurd ((ge_nI (a := 16) (i := i) (by decide) (by omega) rfl hx).mp c_7) (by omega)
      · refine st_iload_n C (dk DX6_reachable_0 7 rfl) rfl ?_
        refine st_aload_n C (dk DX6_reachable_0 8 rfl) rfl ?_
        refine st_get C fl_RX6_37 (dk DX6_reachable_0 9 rfl) 0 rfl rfl ?_
        refine st_iload_n C (dk DX6_reachable_0 10 rfl) rfl ?_
        refine st_iald C (dk DX6_reachable_0 11 rfl) 1 rfl (vp_nI hx (by omega : i < 16) (by decide)) ?_
        refine st_iconst C (v := -1) (dk DX6_reachable_0 12 rfl) (by decide) ?_
        refine st_icmp_ne C (tgt := 25) (dk DX6_reachable_0 13 rfl) (by decide) (fun c_18 => ?_) (fun c_18 => ?_)
        · refine st_iconst C (v := 1) (dk DX6_reachable_0 16 rfl) (by decide) ?_
          refine st_iadd C (dk DX6_reachable_0 17 rfl) ?_
          refine st_istore_n C (dk DX6_reachable_0 18 rfl) (by decide) rfl ?_
          refine st_iinc C (dk DX6_reachable_0 19 rfl) rfl (iadd_ofInt _ (1) (1) (by decide)) (by decide) rfl ?_
          refine st_goto C (tgt := 4) (dk DX6_reachable_0 20 rfl) (by decide) ?_
          exact ih (i + 1) _ _ (by omega) (up_nI hx) (by rw [hacc, nI_1]; congr 1; show _ = cnt (fS s) i + _; cases hq : fi (fS s) i with
            | none => rw [hfs, fsOf_none hq] at c_18; exact absurd rfl c_18
            | some j => rfl)
        · refine st_iconst C (v := 0) (dk DX6_reachable_0 14 rfl) (by decide) ?_
          refine st_goto C (tgt := 26) (dk DX6_reachable_0 15 rfl) (by decide) ?_
          refine st_iadd C (dk DX6_reachable_0 17 rfl) ?_
          refine st_istore_n C (dk DX6_reachable_0 18 rfl) (by decide) rfl ?_
          refine st_iinc C (dk DX6_reachable_0 19 rfl) rfl (iadd_ofInt _ (1) (1) (by decide)) (by decide) rfl ?_
          refine st_goto C (tgt := 4) (dk DX6_reachable_0 20 rfl) (by decide) ?_
          exact ih (i + 1) _ _ (by omega) (up_nI hx) (by rw [hacc, show (0 : Int32) = nI 0 from rfl, nI_add]; congr 1; show _ = cnt (fS s) i + _; cases hq : fi (fS s) i with
            | none => rfl
            | some j => rw [hfs, fsOf_some hq] at c_18; exact absurd c_18 (nI_m1 (by have := fS_emN hok (fi_lt' hq); omega)))
  refine st_iconst C (v := 0) (dk DX6_reachable_0 0 rfl) (by decide) ?_
  refine st_istore_n C (dk DX6_reachable_0 1 rfl) (by decide) rfl ?_
  refine st_iconst C (v := 0) (dk DX6_reachable_0 2 rfl) (by decide) ?_
  refine st_istore_n C (dk DX6_reachable_0 3 rfl) (by decide) rfl ?_
  exact loop 16 0 _ _ (by omega) rfl rfl
