/-! the reference: cell, plan, count, ifDoor, without, bestFold -/
set_option maxHeartbeats 4000000 in
set_option maxRecDepth 100000 in
theorem k_X6_cell (l : Launch) (G : wG) {M : Nat} {A : Nat → Nat} {ke ty th ap ft bo ot il : Int32} {s : mS} {f : Nat → Int32} {qu fr by9 fa fs : Nat → Int32} {x y : Int32} (hf : hd53 f s) (hok : mOk s) (hil : il = 0 ∨ (il = 1 ∧ MRel (fS s) qu fr by9 fa fs)) : Con0 l G yX6_cell cX6_cell 3 (some .int) 8 [.ref M, .int x, .int y] [(M, ob 5 (mF A ke ty th ap ft bo ot il)), (A 0, aI G 53 f), (A 5, aI G 4624 qu), (A 6, aI G 4624 fr), (A 7, aI G 4624 by9), (A 8, aI G 4624 fa), (A 9, aI G 16 fs)] (fun r w9 => (¬ isN x 15 ∧ r = some (.int 0) ∧ w9 = [(M, ob 5 (mF A ke ty 1 ap ft bo ot il)), (A 0, aI G 53 f), (A 5, aI G 4624 qu), (A 6, aI G 4624 fr), (A 7, aI G 4624 by9), (A 8, aI G 4624 fa), (A 9, aI G 16 fs)]) ∨ (isN x 15 ∧ ¬ isN y 6 ∧ r = some (.int 0) ∧ w9 = [(M, ob 5 (mF A ke ty 2 ap ft bo ot il)), (A 0, aI G 53 f), (A 5, aI G 4624 qu), (A 6, aI G 4624 fr), (A 7, aI G 4624 by9), (A 8, aI G 4624 fa), (A 9, aI G 16 fs)]) ∨ (∃ j i, j ≤ 15 ∧ i ≤ 6 ∧ x = nI j ∧ y = nI i ∧ r = some (.int (ofI s j i)) ∧ ∃ (bo9 ot9 : Int32) (qu9 fr9 by99 fa9 fs9 : Nat → Int32), MRel (fS s) qu9 fr9 by99 fa9 fs9 ∧ w9 = [(M, ob 5 (mF A ke ty 0 ap ft bo9 ot9 1)), (A 0, aI G 53 f), (A 5, aI G 4624 qu9), (A 6, aI G 4624 fr9), (A 7, aI G 4624 by99), (A 8, aI G 4624 fa9), (A 9, aI G 16 fs9)])) := by
  refine Con.mk (by decide +kernel) (Nat.le_of_ble_eq_true rfl) (fun P C Rr => ?_)
  refine st_aload_n C (dk DX6_cell_0 0 rfl) rfl ?_
  refine st_iconst C (v := 0) (dk DX6_cell_0 1 rfl) (by decide) ?_
  refine st_put C fl_RX6_40 fc_5 fw_5_6 (dk DX6_cell_0 2 rfl) 0 rfl rfl rfl (Nat.le_of_ble_eq_true rfl) ?_
  refine st_iload_n C (dk DX6_cell_0 3 rfl) rfl ?_
  refine st_cS C (k_X6_isCell l G) mf_X6_isCell ms_X6_isCell ml_RX6_63 (dk DX6_cell_0 4 rfl) [] rfl rfl rfl rfl (Nat.le_of_ble_eq_true rfl) ⟨Nat.le_of_ble_eq_true rfl, Nat.le_of_ble_eq_true rfl⟩ ⟨Nat.zero_le _, Nat.zero_le _⟩ (fun r9 w9 hq9 => ?_)
  obtain ⟨rfl, rfl⟩ := hq9
  refine st_if_ne C (tgt := 18) (dk DX6_cell_0 5 rfl) (by decide) (fun c_9 => ?_) (fun c_9 => ?_)
  · refine st_iload_n C (dk DX6_cell_0 10 rfl) rfl ?_
    refine st_iconst C (v := 0) (dk DX6_cell_0 11 rfl) (by decide) ?_
    refine st_bipush C (v := 6) (dk DX6_cell_0 12 rfl) (by decide) ?_
    refine st_cS C (k_X6_in l G) mf_X6_in ms_X6_in ml_RX6_44 (dk DX6_cell_0 13 rfl) [] rfl rfl rfl rfl (Nat.le_of_ble_eq_true rfl) ⟨Nat.le_of_ble_eq_true rfl, Nat.le_of_ble_eq_true rfl⟩ ⟨Nat.zero_le _, Nat.zero_le _⟩ (fun r9 w9 hq9 => ?_)
    obtain ⟨rfl, rfl⟩ := hq9
    refine st_if_eq C (tgt := 37) (dk DX6_cell_0 14 rfl) (by decide) (fun c_25 => ?_) (fun c_25 => ?_)
    · refine st_aload_n C (dk DX6_cell_0 20 rfl) rfl ?_
      refine st_iconst C (v := 2) (dk DX6_cell_0 21 rfl) (by decide) ?_
      refine st_cV C (k_X6_fails l G) mf_X6_fails mi_X6_fails ml_RX6_59 (dk DX6_cell_0 22 rfl) [0] rfl rfl rfl rfl (Nat.le_of_ble_eq_true rfl) rfl rfl ⟨Nat.le_of_ble_eq_true rfl, Nat.le_of_ble_eq_true rfl⟩ ⟨Nat.zero_le _, Nat.zero_le _⟩ (fun r9 w9 hq9 => ?_)
      obtain ⟨rfl, rfl⟩ := hq9
      exact Rr 0 0 _ _ _ _ _ _ (Nat.zero_le _) (Nat.zero_le _) (dk DX6_cell_0 23 rfl) (.inr (.inl ⟨_, rfl, rfl, rfl, rfl⟩)) rfl ⟨rfl, Or.inr (Or.inl ⟨rInR_f (n := 15) (by decide) rfl c_9, rInR_t (n := 6) (by decide) rfl c_25, rfl, rfl⟩)⟩
    · obtain ⟨j, hj, rfl⟩ := rInR_f (n := 15) (by decide) rfl c_9
      obtain ⟨i, hi, rfl⟩ := rInR_f (n := 6) (by decide) rfl c_25
      refine st_aload_n C (dk DX6_cell_0 15 rfl) rfl ?_
      refine st_iload_n C (dk DX6_cell_0 16 rfl) rfl ?_
      refine st_iload_n C (dk DX6_cell_0 17 rfl) rfl ?_
      refine st_cV C (k_X6_ofCell l G hf hok hil rfl (by omega : j < 16) rfl hi) mf_X6_ofCell mi_X6_ofCell ml_RX6_146 (dk DX6_cell_0 18 rfl) [0, 1, 2, 3, 4, 5, 6] rfl rfl rfl rfl (Nat.le_of_ble_eq_true rfl) rfl rfl ⟨Nat.le_of_ble_eq_true rfl, Nat.le_of_ble_eq_true rfl⟩ ⟨Nat.zero_le _, Nat.zero_le _⟩ (fun r9 w9 hq9 => ?_)
      obtain ⟨rfl, bo31, ot31, qu31, fr31, by31, fa31, fs31, hM31, rfl⟩ := hq9
      refine st_goto C (tgt := 42) (dk DX6_cell_0 19 rfl) (by decide) ?_
      exact Rr 0 0 _ _ _ _ _ _ (Nat.zero_le _) (Nat.zero_le _) (dk DX6_cell_0 23 rfl) (.inr (.inl ⟨_, rfl, rfl, rfl, rfl⟩)) rfl ⟨rfl, Or.inr (Or.inr ⟨j, i, hj, hi, rfl, rfl, rfl, bo31, ot31, qu31, fr31, by31, fa31, fs31, hM31, rfl⟩)⟩
  · refine st_aload_n C (dk DX6_cell_0 6 rfl) rfl ?_
    refine st_iconst C (v := 1) (dk DX6_cell_0 7 rfl) (by decide) ?_
    refine st_cV C (k_X6_fails l G) mf_X6_fails mi_X6_fails ml_RX6_59 (dk DX6_cell_0 8 rfl) [0] rfl rfl rfl rfl (Nat.le_of_ble_eq_true rfl) rfl rfl ⟨Nat.le_of_ble_eq_true rfl, Nat.le_of_ble_eq_true rfl⟩ ⟨Nat.zero_le _, Nat.zero_le _⟩ (fun r9 w9 hq9 => ?_)
    obtain ⟨rfl, rfl⟩ := hq9
    exact Rr 0 0 _ _ _ _ _ _ (Nat.zero_le _) (Nat.zero_le _) (dk DX6_cell_0 9 rfl) (.inr (.inl ⟨_, rfl, rfl, rfl, rfl⟩)) rfl ⟨rfl, Or.inl ⟨rInR_t (n := 15) (by decide) rfl c_9, rfl, rfl⟩⟩
set_option maxHeartbeats 4000000 in
set_option maxRecDepth 100000 in
theorem k_X6_plan (l : Launch) (G : wG) {M : Nat} {A : Nat → Nat} {ke ty th ap ft bo ot il : Int32} {s : mS} {f : Nat → Int32} {qu fr by9 fa fs : Nat → Int32} {x y : Int32} (hf : hd53 f s) (hok : mOk s) (hil : il = 0 ∨ (il = 1 ∧ MRel (fS s) qu fr by9 fa fs)) : Con0 l G yX6_plan cX6_plan 3 (some .int) 8 [.ref M, .int x, .int y] [(M, ob 5 (mF A ke ty th ap ft bo ot il)), (A 0, aI G 53 f), (A 5, aI G 4624 qu), (A 6, aI G 4624 fr), (A 7, aI G 4624 by9), (A 8, aI G 4624 fa), (A 9, aI G 16 fs)] (fun r w9 => (¬ isN x 15 ∧ r = some (.int 0) ∧ w9 = [(M, ob 5 (mF A ke ty 1 ap ft bo ot il)), (A 0, aI G 53 f), (A 5, aI G 4624 qu), (A 6, aI G 4624 fr), (A 7, aI G 4624 by9), (A 8, aI G 4624 fa), (A 9, aI G 16 fs)]) ∨ (isN x 15 ∧ y < 0 ∧ r = some (.int 0) ∧ w9 = [(M, ob 5 (mF A ke ty 2 ap ft bo ot il)), (A 0, aI G 53 f), (A 5, aI G 4624 qu), (A 6, aI G 4624 fr), (A 7, aI G 4624 by9), (A 8, aI G 4624 fa), (A 9, aI G 16 fs)]) ∨ (∃ j i, j ≤ 15 ∧ i < 2 ^ 31 ∧ x = nI j ∧ y = nI i ∧ r = some (.int (plI (fS s) j i)) ∧ ∃ (bo9 ot9 : Int32) (qu9 fr9 by99 fa9 fs9 : Nat → Int32), MRel (fS s) qu9 fr9 by99 fa9 fs9 ∧ w9 = [(M, ob 5 (mF A ke ty 0 ap ft bo9 ot9 1)), (A 0, aI G 53 f), (A 5, aI G 4624 qu9), (A 6, aI G 4624 fr9), (A 7, aI G 4624 by99), (A 8, aI G 4624 fa9), (A 9, aI G 16 fs9)])) := by
  refine Con.mk (by decide +kernel) (Nat.le_of_ble_eq_true rfl) (fun P C Rr => ?_)
  refine st_aload_n C (dk DX6_plan_0 0 rfl) rfl ?_
  refine st_iconst C (v := 0) (dk DX6_plan_0 1 rfl) (by decide) ?_
  refine st_put C fl_RX6_40 fc_5 fw_5_6 (dk DX6_plan_0 2 rfl) 0 rfl rfl rfl (Nat.le_of_ble_eq_true rfl) ?_
  refine st_iload_n C (dk DX6_plan_0 3 rfl) rfl ?_
  refine st_cS C (k_X6_isCell l G) mf_X6_isCell ms_X6_isCell ml_RX6_63 (dk DX6_plan_0 4 rfl) [] rfl rfl rfl rfl (Nat.le_of_ble_eq_true rfl) ⟨Nat.le_of_ble_eq_true rfl, Nat.le_of_ble_eq_true rfl⟩ ⟨Nat.zero_le _, Nat.zero_le _⟩ (fun r9 w9 hq9 => ?_)
  obtain ⟨rfl, rfl⟩ := hq9
  refine st_if_ne C (tgt := 18) (dk DX6_plan_0 5 rfl) (by decide) (fun c_9 => ?_) (fun c_9 => ?_)
  · refine st_iload_n C (dk DX6_plan_0 10 rfl) rfl ?_
    refine st_if_lt C (tgt := 31) (dk DX6_plan_0 11 rfl) (by decide) (fun c_19 => ?_) (fun c_19 => ?_)
    · refine st_aload_n C (dk DX6_plan_0 17 rfl) rfl ?_
      refine st_iconst C (v := 2) (dk DX6_plan_0 18 rfl) (by decide) ?_
      refine st_cV C (k_X6_fails l G) mf_X6_fails mi_X6_fails ml_RX6_59 (dk DX6_plan_0 19 rfl) [0] rfl rfl rfl rfl (Nat.le_of_ble_eq_true rfl) rfl rfl ⟨Nat.le_of_ble_eq_true rfl, Nat.le_of_ble_eq_true rfl⟩ ⟨Nat.zero_le _, Nat.zero_le _⟩ (fun r9 w9 hq9 => ?_)
      obtain ⟨rfl, rfl⟩ := hq9
      exact Rr 0 0 _ _ _ _ _ _ (Nat.zero_le _) (Nat.zero_le _) (dk DX6_plan_0 20 rfl) (.inr (.inl ⟨_, rfl, rfl, rfl, rfl⟩)) rfl ⟨rfl, Or.inr (Or.inl ⟨rInR_f (n := 15) (by decide) rfl c_9, c_19, rfl, rfl⟩)⟩
    · obtain ⟨j, hj, rfl⟩ := rInR_f (n := 15) (by decide) rfl c_9
      obtain ⟨i, hi, rfl⟩ := nI_of c_19
      refine st_aload_n C (dk DX6_plan_0 12 rfl) rfl ?_
      refine st_iload_n C (dk DX6_plan_0 13 rfl) rfl ?_
      refine st_iload_n C (dk DX6_plan_0 14 rfl) rfl ?_
      refine st_cV C (k_X6_planned l G hf hok hil rfl (by omega : j < 16) rfl hi) mf_X6_planned mi_X6_planned ml_RX6_149 (dk DX6_plan_0 15 rfl) [0, 1, 2, 3, 4, 5, 6] rfl rfl rfl rfl (Nat.le_of_ble_eq_true rfl) rfl rfl ⟨Nat.le_of_ble_eq_true rfl, Nat.le_of_ble_eq_true rfl⟩ ⟨Nat.zero_le _, Nat.zero_le _⟩ (fun r9 w9 hq9 => ?_)
      obtain ⟨rfl, bo25, ot25, qu25, fr25, by25, fa25, fs25, hM25, rfl⟩ := hq9
      refine st_goto C (tgt := 36) (dk DX6_plan_0 16 rfl) (by decide) ?_
      exact Rr 0 0 _ _ _ _ _ _ (Nat.zero_le _) (Nat.zero_le _) (dk DX6_plan_0 20 rfl) (.inr (.inl ⟨_, rfl, rfl, rfl, rfl⟩)) rfl ⟨rfl, Or.inr (Or.inr ⟨j, i, hj, hi, rfl, rfl, rfl, bo25, ot25, qu25, fr25, by25, fa25, fs25, hM25, rfl⟩)⟩
  · refine st_aload_n C (dk DX6_plan_0 6 rfl) rfl ?_
    refine st_iconst C (v := 1) (dk DX6_plan_0 7 rfl) (by decide) ?_
    refine st_cV C (k_X6_fails l G) mf_X6_fails mi_X6_fails ml_RX6_59 (dk DX6_plan_0 8 rfl) [0] rfl rfl rfl rfl (Nat.le_of_ble_eq_true rfl) rfl rfl ⟨Nat.le_of_ble_eq_true rfl, Nat.le_of_ble_eq_true rfl⟩ ⟨Nat.zero_le _, Nat.zero_le _⟩ (fun r9 w9 hq9 => ?_)
    obtain ⟨rfl, rfl⟩ := hq9
    exact Rr 0 0 _ _ _ _ _ _ (Nat.zero_le _) (Nat.zero_le _) (dk DX6_plan_0 9 rfl) (.inr (.inl ⟨_, rfl, rfl, rfl, rfl⟩)) rfl ⟨rfl, Or.inl ⟨rInR_t (n := 15) (by decide) rfl c_9, rfl, rfl⟩⟩
set_option maxHeartbeats 4000000 in
set_option maxRecDepth 100000 in
theorem k_X6_count (l : Launch) (G : wG) {M : Nat} {A : Nat → Nat} {ke ty th ap ft bo ot il : Int32} {s : mS} {f : Nat → Int32} {qu fr by9 fa fs : Nat → Int32} {x : Int32} {k : Nat} (hf : hd53 f s) (hok : mOk s) (hil : il = 0 ∨ (il = 1 ∧ MRel (fS s) qu fr by9 fa fs)) (hke : ke = nI k) : Con0 l G yX6_count cX6_count 2 (some .int) 8 [.ref M, .int x] [(M, ob 5 (mF A ke ty th ap ft bo ot il)), (A 0, aI G 53 f), (A 5, aI G 4624 qu), (A 6, aI G 4624 fr), (A 7, aI G 4624 by9), (A 8, aI G 4624 fa), (A 9, aI G 16 fs)] (fun r w9 => (¬ isN x 6 ∧ r = some (.int 0) ∧ w9 = [(M, ob 5 (mF A ke ty 1 ap ft bo ot il)), (A 0, aI G 53 f), (A 5, aI G 4624 qu), (A 6, aI G 4624 fr), (A 7, aI G 4624 by9), (A 8, aI G 4624 fa), (A 9, aI G 16 fs)]) ∨ (∃ i, i ≤ 6 ∧ x = nI i ∧ r = some (.int (coI s k i)) ∧ ∃ (bo9 ot9 : Int32) (qu9 fr9 by99 fa9 fs9 : Nat → Int32), MRel (fS s) qu9 fr9 by99 fa9 fs9 ∧ w9 = [(M, ob 5 (mF A ke ty 0 ap ft bo9 ot9 1)), (A 0, aI G 53 f), (A 5, aI G 4624 qu9), (A 6, aI G 4624 fr9), (A 7, aI G 4624 by99), (A 8, aI G 4624 fa9), (A 9, aI G 16 fs9)])) := by
  refine Con.mk (by decide +kernel) (Nat.le_of_ble_eq_true rfl) (fun P C Rr => ?_)
  refine st_aload_n C (dk DX6_count_0 0 rfl) rfl ?_
  refine st_iconst C (v := 0) (dk DX6_count_0 1 rfl) (by decide) ?_
  refine st_put C fl_RX6_40 fc_5 fw_5_6 (dk DX6_count_0 2 rfl) 0 rfl rfl rfl (Nat.le_of_ble_eq_true rfl) ?_
  refine st_iload_n C (dk DX6_count_0 3 rfl) rfl ?_
  refine st_iconst C (v := 0) (dk DX6_count_0 4 rfl) (by decide) ?_
  refine st_bipush C (v := 6) (dk DX6_count_0 5 rfl) (by decide) ?_
  refine st_cS C (k_X6_in l G) mf_X6_in ms_X6_in ml_RX6_44 (dk DX6_count_0 6 rfl) [] rfl rfl rfl rfl (Nat.le_of_ble_eq_true rfl) ⟨Nat.le_of_ble_eq_true rfl, Nat.le_of_ble_eq_true rfl⟩ ⟨Nat.zero_le _, Nat.zero_le _⟩ (fun r9 w9 hq9 => ?_)
  obtain ⟨rfl, rfl⟩ := hq9
  refine st_if_eq C (tgt := 23) (dk DX6_count_0 7 rfl) (by decide) (fun c_12 => ?_) (fun c_12 => ?_)
  · refine st_aload_n C (dk DX6_count_0 12 rfl) rfl ?_
    refine st_iconst C (v := 1) (dk DX6_count_0 13 rfl) (by decide) ?_
    refine st_cV C (k_X6_fails l G) mf_X6_fails mi_X6_fails ml_RX6_59 (dk DX6_count_0 14 rfl) [0] rfl rfl rfl rfl (Nat.le_of_ble_eq_true rfl) rfl rfl ⟨Nat.le_of_ble_eq_true rfl, Nat.le_of_ble_eq_true rfl⟩ ⟨Nat.zero_le _, Nat.zero_le _⟩ (fun r9 w9 hq9 => ?_)
    obtain ⟨rfl, rfl⟩ := hq9
    exact Rr 0 0 _ _ _ _ _ _ (Nat.zero_le _) (Nat.zero_le _) (dk DX6_count_0 15 rfl) (.inr (.inl ⟨_, rfl, rfl, rfl, rfl⟩)) rfl ⟨rfl, Or.inl ⟨rInR_t (n := 6) (by decide) rfl c_12, rfl, rfl⟩⟩
  · obtain ⟨i, hi, rfl⟩ := rInR_f (n := 6) (by decide) rfl c_12
    refine st_aload_n C (dk DX6_count_0 8 rfl) rfl ?_
    refine st_iload_n C (dk DX6_count_0 9 rfl) rfl ?_
    refine st_cV C (k_X6_counted l G hf hok hil hke rfl hi) mf_X6_counted mi_X6_counted ml_RX6_164 (dk DX6_count_0 10 rfl) [0, 1, 2, 3, 4, 5, 6] rfl rfl rfl rfl (Nat.le_of_ble_eq_true rfl) rfl rfl ⟨Nat.le_of_ble_eq_true rfl, Nat.le_of_ble_eq_true rfl⟩ ⟨Nat.zero_le _, Nat.zero_le _⟩ (fun r9 w9 hq9 => ?_)
    obtain ⟨rfl, bo17, ot17, qu17, fr17, by17, fa17, fs17, hM17, rfl⟩ := hq9
    refine st_goto C (tgt := 28) (dk DX6_count_0 11 rfl) (by decide) ?_
    exact Rr 0 0 _ _ _ _ _ _ (Nat.zero_le _) (Nat.zero_le _) (dk DX6_count_0 15 rfl) (.inr (.inl ⟨_, rfl, rfl, rfl, rfl⟩)) rfl ⟨rfl, Or.inr ⟨i, hi, rfl, rfl, bo17, ot17, qu17, fr17, by17, fa17, fs17, hM17, rfl⟩⟩
set_option maxHeartbeats 4000000 in
set_option maxRecDepth 100000 in
theorem k_X6_ifDoor (l : Launch) (G : wG) {M : Nat} {A : Nat → Nat} {ke ty th ap ft bo ot il : Int32} {s : mS} {f : Nat → Int32} {qu fr by9 fa fs : Nat → Int32} {f1 : Nat → Int32} {x y : Int32} (hf : hd53 f s) (hok : mOk s) : Con0 l G yX6_ifDoor cX6_ifDoor 3 (some .int) 7 [.ref M, .int x, .int y] [(M, ob 5 (mF A ke ty th ap ft bo ot il)), (A 0, aI G 53 f), (A 1, aI G 53 f1), (A 5, aI G 4624 qu), (A 6, aI G 4624 fr), (A 7, aI G 4624 by9), (A 8, aI G 4624 fa), (A 9, aI G 16 fs)] (fun r w9 => (¬ isN x 14 ∧ r = some (.int 0) ∧ w9 = [(M, ob 5 (mF A ke ty 1 ap ft bo ot il)), (A 0, aI G 53 f), (A 1, aI G 53 f1), (A 5, aI G 4624 qu), (A 6, aI G 4624 fr), (A 7, aI G 4624 by9), (A 8, aI G 4624 fa), (A 9, aI G 16 fs)]) ∨ (isN x 14 ∧ ¬ isN y 5 ∧ r = some (.int 0) ∧ w9 = [(M, ob 5 (mF A ke ty 2 ap ft bo ot il)), (A 0, aI G 53 f), (A 1, aI G 53 f1), (A 5, aI G 4624 qu), (A 6, aI G 4624 fr), (A 7, aI G 4624 by9), (A 8, aI G 4624 fa), (A 9, aI G 16 fs)]) ∨ (∃ j i, j ≤ 14 ∧ i ≤ 5 ∧ x = nI j ∧ y = nI i ∧ r = some (.int (nI (cnt (fS (updS s (22 + j) i)) 16))) ∧ ∃ (bo9 ot9 : Int32) (f19 qu9 fr9 by99 fa9 fs9 : Nat → Int32), w9 = [(M, ob 5 (mF A ke ty 0 ap ft bo9 ot9 0)), (A 0, aI G 53 f), (A 1, aI G 53 f19), (A 5, aI G 4624 qu9), (A 6, aI G 4624 fr9), (A 7, aI G 4624 by99), (A 8, aI G 4624 fa9), (A 9, aI G 16 fs9)])) := by
  refine Con.mk (by decide +kernel) (Nat.le_of_ble_eq_true rfl) (fun P C Rr => ?_)
  refine st_aload_n C (dk DX6_ifDoor_0 0 rfl) rfl ?_
  refine st_iconst C (v := 0) (dk DX6_ifDoor_0 1 rfl) (by decide) ?_
  refine st_put C fl_RX6_40 fc_5 fw_5_6 (dk DX6_ifDoor_0 2 rfl) 0 rfl rfl rfl (Nat.le_of_ble_eq_true rfl) ?_
  refine st_iload_n C (dk DX6_ifDoor_0 3 rfl) rfl ?_
  refine st_iconst C (v := 0) (dk DX6_ifDoor_0 4 rfl) (by decide) ?_
  refine st_bipush C (v := 14) (dk DX6_ifDoor_0 5 rfl) (by decide) ?_
  refine st_cS C (k_X6_in l G) mf_X6_in ms_X6_in ml_RX6_44 (dk DX6_ifDoor_0 6 rfl) [] rfl rfl rfl rfl (Nat.le_of_ble_eq_true rfl) ⟨Nat.le_of_ble_eq_true rfl, Nat.le_of_ble_eq_true rfl⟩ ⟨Nat.zero_le _, Nat.zero_le _⟩ (fun r9 w9 hq9 => ?_)
  obtain ⟨rfl, rfl⟩ := hq9
  refine st_if_ne C (tgt := 21) (dk DX6_ifDoor_0 7 rfl) (by decide) (fun c_12 => ?_) (fun c_12 => ?_)
  · refine st_iload_n C (dk DX6_ifDoor_0 12 rfl) rfl ?_
    refine st_iconst C (v := 0) (dk DX6_ifDoor_0 13 rfl) (by decide) ?_
    refine st_iconst C (v := 5) (dk DX6_ifDoor_0 14 rfl) (by decide) ?_
    refine st_cS C (k_X6_in l G) mf_X6_in ms_X6_in ml_RX6_44 (dk DX6_ifDoor_0 15 rfl) [] rfl rfl rfl rfl (Nat.le_of_ble_eq_true rfl) ⟨Nat.le_of_ble_eq_true rfl, Nat.le_of_ble_eq_true rfl⟩ ⟨Nat.zero_le _, Nat.zero_le _⟩ (fun r9 w9 hq9 => ?_)
    obtain ⟨rfl, rfl⟩ := hq9
    refine st_if_eq C (tgt := 42) (dk DX6_ifDoor_0 16 rfl) (by decide) (fun c_27 => ?_) (fun c_27 => ?_)
    · refine st_aload_n C (dk DX6_ifDoor_0 24 rfl) rfl ?_
      refine st_iconst C (v := 2) (dk DX6_ifDoor_0 25 rfl) (by decide) ?_
      refine st_cV C (k_X6_fails l G) mf_X6_fails mi_X6_fails ml_RX6_59 (dk DX6_ifDoor_0 26 rfl) [0] rfl rfl rfl rfl (Nat.le_of_ble_eq_true rfl) rfl rfl ⟨Nat.le_of_ble_eq_true rfl, Nat.le_of_ble_eq_true rfl⟩ ⟨Nat.zero_le _, Nat.zero_le _⟩ (fun r9 w9 hq9 => ?_)
      obtain ⟨rfl, rfl⟩ := hq9
      exact Rr 0 0 _ _ _ _ _ _ (Nat.zero_le _) (Nat.zero_le _) (dk DX6_ifDoor_0 27 rfl) (.inr (.inl ⟨_, rfl, rfl, rfl, rfl⟩)) rfl ⟨rfl, Or.inr (Or.inl ⟨rInR_f (n := 14) (by decide) rfl c_12, rInR_t (n := 5) (by decide) rfl c_27, rfl, rfl⟩)⟩
    · obtain ⟨j, hj, rfl⟩ := rInR_f (n := 14) (by decide) rfl c_12
      obtain ⟨i, hi, rfl⟩ := rInR_f (n := 5) (by decide) rfl c_27
      refine st_aload_n C (dk DX6_ifDoor_0 17 rfl) rfl ?_
      refine st_bipush C (v := 22) (dk DX6_ifDoor_0 18 rfl) (by decide) ?_
      refine st_iload_n C (dk DX6_ifDoor_0 19 rfl) rfl ?_
      refine st_iadd C (dk DX6_ifDoor_0 20 rfl) ?_
      refine st_iload_n C (dk DX6_ifDoor_0 21 rfl) rfl ?_
      refine st_cV C (k_X6_with l G hf (hok.upd (k := 22 + j) hi (Or.inl (by omega))) (nI_add 22 j) (by omega) rfl) mf_X6_with mi_X6_with ml_RX6_167 (dk DX6_ifDoor_0 22 rfl) [0, 1, 2, 3, 4, 5, 6, 7] rfl rfl rfl rfl (Nat.le_of_ble_eq_true rfl) rfl rfl ⟨Nat.le_of_ble_eq_true rfl, Nat.le_of_ble_eq_true rfl⟩ ⟨Nat.zero_le _, Nat.zero_le _⟩ (fun r9 w9 hq9 => ?_)
      obtain ⟨rfl, bo36, ot36, f136, qu36, fr36, by36, fa36, fs36, hM36, rfl⟩ := hq9
      refine st_goto C (tgt := 47) (dk DX6_ifDoor_0 23 rfl) (by decide) ?_
      exact Rr 0 0 _ _ _ _ _ _ (Nat.zero_le _) (Nat.zero_le _) (dk DX6_ifDoor_0 27 rfl) (.inr (.inl ⟨_, rfl, rfl, rfl, rfl⟩)) rfl ⟨rfl, Or.inr (Or.inr ⟨j, i, hj, hi, rfl, rfl, rfl, bo36, ot36, f136, qu36, fr36, by36, fa36, fs36, rfl⟩)⟩
  · refine st_aload_n C (dk DX6_ifDoor_0 8 rfl) rfl ?_
    refine st_iconst C (v := 1) (dk DX6_ifDoor_0 9 rfl) (by decide) ?_
    refine st_cV C (k_X6_fails l G) mf_X6_fails mi_X6_fails ml_RX6_59 (dk DX6_ifDoor_0 10 rfl) [0] rfl rfl rfl rfl (Nat.le_of_ble_eq_true rfl) rfl rfl ⟨Nat.le_of_ble_eq_true rfl, Nat.le_of_ble_eq_true rfl⟩ ⟨Nat.zero_le _, Nat.zero_le _⟩ (fun r9 w9 hq9 => ?_)
    obtain ⟨rfl, rfl⟩ := hq9
    exact Rr 0 0 _ _ _ _ _ _ (Nat.zero_le _) (Nat.zero_le _) (dk DX6_ifDoor_0 11 rfl) (.inr (.inl ⟨_, rfl, rfl, rfl, rfl⟩)) rfl ⟨rfl, Or.inl ⟨rInR_t (n := 14) (by decide) rfl c_12, rfl, rfl⟩⟩
set_option maxHeartbeats 4000000 in
set_option maxRecDepth 100000 in
theorem k_X6_without (l : Launch) (G : wG) {M : Nat} {A : Nat → Nat} {ke ty th ap ft bo ot il : Int32} {s : mS} {f : Nat → Int32} {qu fr by9 fa fs : Nat → Int32} {f1 : Nat → Int32} {x : Int32} (hf : hd53 f s) (hok : mOk s) : Con0 l G yX6_without cX6_without 2 (some .int) 7 [.ref M, .int x] [(M, ob 5 (mF A ke ty th ap ft bo ot il)), (A 0, aI G 53 f), (A 1, aI G 53 f1), (A 5, aI G 4624 qu), (A 6, aI G 4624 fr), (A 7, aI G 4624 by9), (A 8, aI G 4624 fa), (A 9, aI G 16 fs)] (fun r w9 => (¬ isN x 15 ∧ r = some (.int 0) ∧ w9 = [(M, ob 5 (mF A ke ty 1 ap ft bo ot il)), (A 0, aI G 53 f), (A 1, aI G 53 f1), (A 5, aI G 4624 qu), (A 6, aI G 4624 fr), (A 7, aI G 4624 by9), (A 8, aI G 4624 fa), (A 9, aI G 16 fs)]) ∨ (∃ j, j ≤ 15 ∧ x = nI j ∧ r = some (.int (nI (cnt (fS (updS s (6 + j) 0)) 16))) ∧ ∃ (bo9 ot9 : Int32) (f19 qu9 fr9 by99 fa9 fs9 : Nat → Int32), w9 = [(M, ob 5 (mF A ke ty 0 ap ft bo9 ot9 0)), (A 0, aI G 53 f), (A 1, aI G 53 f19), (A 5, aI G 4624 qu9), (A 6, aI G 4624 fr9), (A 7, aI G 4624 by99), (A 8, aI G 4624 fa9), (A 9, aI G 16 fs9)])) := by
  refine Con.mk (by decide +kernel) (Nat.le_of_ble_eq_true rfl) (fun P C Rr => ?_)
  refine st_aload_n C (dk DX6_without_0 0 rfl) rfl ?_
  refine st_iconst C (v := 0) (dk DX6_without_0 1 rfl) (by decide) ?_
  refine st_put C fl_RX6_40 fc_5 fw_5_6 (dk DX6_without_0 2 rfl) 0 rfl rfl rfl (Nat.le_of_ble_eq_true rfl) ?_
  refine st_iload_n C (dk DX6_without_0 3 rfl) rfl ?_
  refine st_cS C (k_X6_isCell l G) mf_X6_isCell ms_X6_isCell ml_RX6_63 (dk DX6_without_0 4 rfl) [] rfl rfl rfl rfl (Nat.le_of_ble_eq_true rfl) ⟨Nat.le_of_ble_eq_true rfl, Nat.le_of_ble_eq_true rfl⟩ ⟨Nat.zero_le _, Nat.zero_le _⟩ (fun r9 w9 hq9 => ?_)
  obtain ⟨rfl, rfl⟩ := hq9
  refine st_if_eq C (tgt := 24) (dk DX6_without_0 5 rfl) (by decide) (fun c_9 => ?_) (fun c_9 => ?_)
  · refine st_aload_n C (dk DX6_without_0 13 rfl) rfl ?_
    refine st_iconst C (v := 1) (dk DX6_without_0 14 rfl) (by decide) ?_
    refine st_cV C (k_X6_fails l G) mf_X6_fails mi_X6_fails ml_RX6_59 (dk DX6_without_0 15 rfl) [0] rfl rfl rfl rfl (Nat.le_of_ble_eq_true rfl) rfl rfl ⟨Nat.le_of_ble_eq_true rfl, Nat.le_of_ble_eq_true rfl⟩ ⟨Nat.zero_le _, Nat.zero_le _⟩ (fun r9 w9 hq9 => ?_)
    obtain ⟨rfl, rfl⟩ := hq9
    exact Rr 0 0 _ _ _ _ _ _ (Nat.zero_le _) (Nat.zero_le _) (dk DX6_without_0 16 rfl) (.inr (.inl ⟨_, rfl, rfl, rfl, rfl⟩)) rfl ⟨rfl, Or.inl ⟨rInR_t (n := 15) (by decide) rfl c_9, rfl, rfl⟩⟩
  · obtain ⟨j, hj, rfl⟩ := rInR_f (n := 15) (by decide) rfl c_9
    refine st_aload_n C (dk DX6_without_0 6 rfl) rfl ?_
    refine st_bipush C (v := 6) (dk DX6_without_0 7 rfl) (by decide) ?_
    refine st_iload_n C (dk DX6_without_0 8 rfl) rfl ?_
    refine st_iadd C (dk DX6_without_0 9 rfl) ?_
    refine st_iconst C (v := 0) (dk DX6_without_0 10 rfl) (by decide) ?_
    refine st_cV C (k_X6_with l G hf (hok.upd (k := 6 + j) (v := 0) (by omega) (Or.inl (by omega))) (nI_add 6 j) (by omega) rfl) mf_X6_with mi_X6_with ml_RX6_167 (dk DX6_without_0 11 rfl) [0, 1, 2, 3, 4, 5, 6, 7] rfl rfl rfl rfl (Nat.le_of_ble_eq_true rfl) rfl rfl ⟨Nat.le_of_ble_eq_true rfl, Nat.le_of_ble_eq_true rfl⟩ ⟨Nat.zero_le _, Nat.zero_le _⟩ (fun r9 w9 hq9 => ?_)
    obtain ⟨rfl, bo18, ot18, f118, qu18, fr18, by18, fa18, fs18, hM18, rfl⟩ := hq9
    refine st_goto C (tgt := 29) (dk DX6_without_0 12 rfl) (by decide) ?_
    exact Rr 0 0 _ _ _ _ _ _ (Nat.zero_le _) (Nat.zero_le _) (dk DX6_without_0 16 rfl) (.inr (.inl ⟨_, rfl, rfl, rfl, rfl⟩)) rfl ⟨rfl, Or.inr ⟨j, hj, rfl, rfl, bo18, ot18, f118, qu18, fr18, by18, fa18, fs18, rfl⟩⟩
