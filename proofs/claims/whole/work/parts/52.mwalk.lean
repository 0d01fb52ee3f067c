/-! the reference: walk -/
set_option maxHeartbeats 4000000 in
set_option maxRecDepth 100000 in
theorem k_X6_walk (l : Launch) (G : wG) {M : Nat} {A : Nat → Nat} {ke ty th ap ft bo ot il : Int32} {s : mS} {f : Nat → Int32} {qu fr by9 fa fs : Nat → Int32} {f2 : Nat → Int32} {k : Nat} {p : Nat → mS} {k1 k2 g1 g2 : Nat} {x : Int32} (hf : hd53 f s) (hok : mOk s) (hil : il = 0 ∨ (il = 1 ∧ MRel (fS s) qu fr by9 fa fs)) (hke : ke = nI k) (hk : k ≤ 6) (hp : pastR f2 k p) (hkp : KP s k1 k2 g1 g2) : Con0 l G yX6_walk cX6_walk 4 (some .int) 8 [.ref M, .int x] [(M, ob 5 (mF A ke ty th ap ft bo ot il)), (A 0, aI G 53 f), (A 2, aI G 318 f2), (A 5, aI G 4624 qu), (A 6, aI G 4624 fr), (A 7, aI G 4624 by9), (A 8, aI G 4624 fa), (A 9, aI G 16 fs)] (fun r w9 => (¬ isN x 15 ∧ r = some (.int 0) ∧ w9 = [(M, ob 5 (mF A ke ty 1 ap ft bo ot il)), (A 0, aI G 53 f), (A 2, aI G 318 f2), (A 5, aI G 4624 qu), (A 6, aI G 4624 fr), (A 7, aI G 4624 by9), (A 8, aI G 4624 fa), (A 9, aI G 16 fs)]) ∨ (∃ j, j ≤ 15 ∧ x = nI j ∧ fi (fS s) j = none ∧ r = some (.int 0) ∧ ∃ (bo9 ot9 : Int32) (qu9 fr9 by99 fa9 fs9 : Nat → Int32), MRel (fS s) qu9 fr9 by99 fa9 fs9 ∧ w9 = [(M, ob 5 (mF A ke ty 2 ap ft bo9 ot9 1)), (A 0, aI G 53 f), (A 2, aI G 318 f2), (A 5, aI G 4624 qu9), (A 6, aI G 4624 fr9), (A 7, aI G 4624 by99), (A 8, aI G 4624 fa9), (A 9, aI G 16 fs9)]) ∨ (∃ j q, j ≤ 15 ∧ x = nI j ∧ fi (fS s) j = some q ∧ r = some (.int (nI (dst (fS s) q))) ∧ ∃ (bo9 ot9 : Int32) (f09 f29 qu9 fr9 by99 fa9 fs9 : Nat → Int32), hd53 f09 (wkS (fS s) j s (dst (fS s) q)) ∧ pastR f29 (svK k) (svP s k p) ∧ w9 = [(M, ob 5 (mF A (nI (svK k)) ty 0 ap ft bo9 ot9 0)), (A 0, aI G 53 f09), (A 2, aI G 318 f29), (A 5, aI G 4624 qu9), (A 6, aI G 4624 fr9), (A 7, aI G 4624 by99), (A 8, aI G 4624 fa9), (A 9, aI G 16 fs9)])) := by
  refine Con.mk (by decide +kernel) (Nat.le_of_ble_eq_true rfl) (fun P C Rr => ?_)
  refine st_aload_n C (dk DX6_walk_0 0 rfl) rfl ?_
  refine st_iconst C (v := 0) (dk DX6_walk_0 1 rfl) (by decide) ?_
  refine st_put C fl_RX6_40 fc_5 fw_5_6 (dk DX6_walk_0 2 rfl) 0 rfl rfl rfl (Nat.le_of_ble_eq_true rfl) ?_
  refine st_iload_n C (dk DX6_walk_0 3 rfl) rfl ?_
  refine st_cS C (k_X6_isCell l G) mf_X6_isCell ms_X6_isCell ml_RX6_63 (dk DX6_walk_0 4 rfl) [] rfl rfl rfl rfl (Nat.le_of_ble_eq_true rfl) ⟨Nat.le_of_ble_eq_true rfl, Nat.le_of_ble_eq_true rfl⟩ ⟨Nat.zero_le _, Nat.zero_le _⟩ (fun r9 w9 hq9 => ?_)
  obtain ⟨rfl, rfl⟩ := hq9
  refine st_if_ne C (tgt := 18) (dk DX6_walk_0 5 rfl) (by decide) (fun c_9 => ?_) (fun c_9 => ?_)
  · obtain ⟨j, hj, rfl⟩ := rInR_f (n := 15) (by decide) rfl c_9
    refine st_aload_n C (dk DX6_walk_0 10 rfl) rfl ?_
    refine st_cV C (k_X6_laysNow l G hf hok hil) mf_X6_laysNow mi_X6_laysNow ml_RX6_123 (dk DX6_walk_0 11 rfl) [0, 1, 3, 4, 5, 6, 7] rfl rfl rfl rfl (Nat.le_of_ble_eq_true rfl) rfl rfl ⟨Nat.le_of_ble_eq_true rfl, Nat.le_of_ble_eq_true rfl⟩ ⟨Nat.zero_le _, Nat.zero_le _⟩ (fun r9 w9 hq9 => ?_)
    obtain ⟨rfl, bo19, ot19, qu19, fr19, by19, fa19, fs19, hM19, rfl⟩ := hq9
    refine st_aload_n C (dk DX6_walk_0 12 rfl) rfl ?_
    refine st_iload_n C (dk DX6_walk_0 13 rfl) rfl ?_
    refine st_cV C (k_X6_steps l G hok hM19 rfl (by omega : j < 16)) mf_X6_steps mi_X6_steps ml_RX6_102 (dk DX6_walk_0 14 rfl) [0, 6, 7] rfl rfl rfl rfl (Nat.le_of_ble_eq_true rfl) rfl rfl ⟨Nat.le_of_ble_eq_true rfl, Nat.le_of_ble_eq_true rfl⟩ ⟨Nat.zero_le _, Nat.zero_le _⟩ (fun r9 w9 hq9 => ?_)
    obtain ⟨rfl, rfl⟩ := hq9
    refine st_istore_n C (dk DX6_walk_0 15 rfl) (by decide) rfl ?_
    refine st_iload_n C (dk DX6_walk_0 16 rfl) rfl ?_
    refine st_iconst C (v := -1) (dk DX6_walk_0 17 rfl) (by decide) ?_
    refine st_icmp_ne C (tgt := 39) (dk DX6_walk_0 18 rfl) (by decide) (fun c_30 => ?_) (fun c_30 => ?_)
    · obtain ⟨q, hq⟩ : ∃ q, fi (fS s) j = some q := by
        cases hq : fi (fS s) j with
        | none => exact absurd (lnOf_none hq) c_30
        | some q => exact ⟨q, rfl⟩
      have hds := dst_small hok (fi_lt' hq)
      rw [lnOf_some hq]
      refine st_aload_n C (dk DX6_walk_0 23 rfl) rfl ?_
      refine st_cV C (k_X6_saves l G hf hke hk hp) mf_X6_saves mi_X6_saves ml_RX6_105 (dk DX6_walk_0 24 rfl) [0, 2, 1] rfl rfl rfl rfl (Nat.le_of_ble_eq_true rfl) rfl rfl ⟨Nat.le_of_ble_eq_true rfl, Nat.le_of_ble_eq_true rfl⟩ ⟨Nat.zero_le _, Nat.zero_le _⟩ (fun r9 w9 hq9 => ?_)
      obtain ⟨rfl, f240, hp40, rfl⟩ := hq9
      refine st_iconst C (v := 0) (dk DX6_walk_0 25 rfl) (by decide) ?_
      refine st_istore_n C (dk DX6_walk_0 26 rfl) (by decide) rfl ?_
      have loop : ∀ (m i : Nat) (x : Int32) (f0 : Nat → Int32), i + m = (dst (fS s) q) → x = nI i → hd53 f0 (wkS (fS s) j s i) → P 0 0 45 [(0, .ref M), (1, .int (nI j)), (2, .int (nI (dst (fS s) q))), (3, .int x)] [] [(M, ob 5 (mF A (nI (svK k)) ty 0 ap ft bo19 ot19 0)), (A 0, aI G 53 f0), (A 2, aI G 318 f240), (A 5, aI G 4624 qu19), (A 6, aI G 4624 fr19), (A 7, aI G 4624 by19), (A 8, aI G 4624 fa19), (A 9, aI G 16 fs19)] := by
        intro m
        induction m with
        | zero =>
          intro i x f0 hi hx hf0
          have hin : i = dst (fS s) q := by omega
          refine st_iload_n C (dk DX6_walk_0 27 rfl) rfl ?_
          refine st_iload_n C (dk DX6_walk_0 28 rfl) rfl ?_
          refine st_icmp_ge C (tgt := 69) (dk DX6_walk_0 29 rfl) (by decide) (fun c_47 => ?_) (fun c_47 => ?_)
          · refine st_iload_n C (dk DX6_walk_0 39 rfl) rfl ?_
            refine Rr 0 0 _ _ _ _ _ _ (Nat.zero_le _) (Nat.zero_le _) (dk DX6_walk_1 0 rfl) (.inr (.inl ⟨_, rfl, rfl, rfl, rfl⟩)) rfl ?_
            rw [hin] at hf0
            exact ⟨rfl, Or.inr (Or.inr ⟨j, q, by omega, rfl, hq, rfl, _, _, _, _, _, _, _, _, _, hf0, hp40, rfl⟩)⟩
          · exact absurd ((ge_nI (a := dst (fS s) q) (i := i) (by omega) (by omega) rfl hx).mpr (by omega)) c_47
        | succ m ih =>
          intro i x f0 hi hx hf0
          obtain ⟨hst, hrf⟩ := (wk_TR hok hkp hq (i + 1) (by omega)).2 i (by omega)
          have hok9 := TR.ok hok (bS_le hok).1 (bS_le hok).2.1 (wk_TR hok hkp hq i (by omega)).1
          refine st_iload_n C (dk DX6_walk_0 27 rfl) rfl ?_
          refine st_iload_n C (dk DX6_walk_0 28 rfl) rfl ?_
          refine st_icmp_ge C (tgt := 69) (dk DX6_walk_0 29 rfl) (by decide) (fun c_47 => ?_) (fun c_47 => ?_)
          · exact absurd ((ge_nI (a := dst (fS s) q) (i := i) (by omega) (by omega) rfl hx).mp c_47) (by omega)
          · refine st_aload_n C (dk DX6_walk_0 30 rfl) rfl ?_
            refine st_get C fl_RX6_7 (dk DX6_walk_0 31 rfl) 0 rfl rfl ?_
            refine st_aload_n C (dk DX6_walk_0 32 rfl) rfl ?_
            refine st_iload_n C (dk DX6_walk_0 33 rfl) rfl ?_
            refine st_iload_n C (dk DX6_walk_0 34 rfl) rfl ?_
            refine st_cV C (k_X6_stepAt l G hok hM19 rfl (by omega : j < 16) hx (by omega)) mf_X6_stepAt mi_X6_stepAt ml_RX6_126 (dk DX6_walk_0 35 rfl) [0, 4, 5, 6, 7] rfl rfl rfl rfl (Nat.le_of_ble_eq_true rfl) rfl rfl ⟨Nat.le_of_ble_eq_true rfl, Nat.le_of_ble_eq_true rfl⟩ ⟨Nat.zero_le _, Nat.zero_le _⟩ (fun r9 w9 hq9 => ?_)
            obtain ⟨rfl, rfl⟩ := hq9
            refine st_cS C (k_X6_goes l G hf0 hok9 (plI_plN hq (by omega)) hst hrf) mf_X6_goes ms_X6_goes ml_RX6_119 (dk DX6_walk_0 36 rfl) [1] rfl rfl rfl rfl (Nat.le_of_ble_eq_true rfl) ⟨Nat.le_of_ble_eq_true rfl, Nat.le_of_ble_eq_true rfl⟩ ⟨Nat.zero_le _, Nat.zero_le _⟩ (fun r9 w9 hq9 => ?_)
            obtain ⟨rfl, f60, hf60, rfl⟩ := hq9
            refine st_iinc C (dk DX6_walk_0 37 rfl) rfl (iadd_ofInt _ (1) (1) (by decide)) (by decide) rfl ?_
            refine st_goto C (tgt := 45) (dk DX6_walk_0 38 rfl) (by decide) ?_
            exact ih (i + 1) _ _ (by omega) (up_nI hx) hf60
      exact loop (dst (fS s) q) 0 _ _ (by omega) rfl hf
    · refine st_aload_n C (dk DX6_walk_0 19 rfl) rfl ?_
      refine st_iconst C (v := 2) (dk DX6_walk_0 20 rfl) (by decide) ?_
      refine st_cV C (k_X6_fails l G) mf_X6_fails mi_X6_fails ml_RX6_59 (dk DX6_walk_0 21 rfl) [0] rfl rfl rfl rfl (Nat.le_of_ble_eq_true rfl) rfl rfl ⟨Nat.le_of_ble_eq_true rfl, Nat.le_of_ble_eq_true rfl⟩ ⟨Nat.zero_le _, Nat.zero_le _⟩ (fun r9 w9 hq9 => ?_)
      obtain ⟨rfl, rfl⟩ := hq9
      refine Rr 0 0 _ _ _ _ _ _ (Nat.zero_le _) (Nat.zero_le _) (dk DX6_walk_0 22 rfl) (.inr (.inl ⟨_, rfl, rfl, rfl, rfl⟩)) rfl ?_
      have hn9 : fi (fS s) j = none := by
        cases hq : fi (fS s) j with
        | none => rfl
        | some q =>
          have h1 := dst_small hok (fi_lt' hq)
          rw [lnOf_some hq] at c_30
          exact absurd c_30 (nI_m1 (by omega))
      exact ⟨rfl, Or.inr (Or.inl ⟨j, hj, rfl, hn9, rfl, _, _, _, _, _, _, _, hM19, rfl⟩)⟩
  · refine st_aload_n C (dk DX6_walk_0 6 rfl) rfl ?_
    refine st_iconst C (v := 1) (dk DX6_walk_0 7 rfl) (by decide) ?_
    refine st_cV C (k_X6_fails l G) mf_X6_fails mi_X6_fails ml_RX6_59 (dk DX6_walk_0 8 rfl) [0] rfl rfl rfl rfl (Nat.le_of_ble_eq_true rfl) rfl rfl ⟨Nat.le_of_ble_eq_true rfl, Nat.le_of_ble_eq_true rfl⟩ ⟨Nat.zero_le _, Nat.zero_le _⟩ (fun r9 w9 hq9 => ?_)
    obtain ⟨rfl, rfl⟩ := hq9
    refine Rr 0 0 _ _ _ _ _ _ (Nat.zero_le _) (Nat.zero_le _) (dk DX6_walk_0 9 rfl) (.inr (.inl ⟨_, rfl, rfl, rfl, rfl⟩)) rfl ?_
    exact ⟨rfl, Or.inl ⟨rInR_t (n := 15) (by decide) rfl c_9, rfl, rfl⟩⟩
