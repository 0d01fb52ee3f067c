/-! contracts of the corridor -/
theorem tsw_out {x : Int32} {hi : Int} (n : Nat) (hn : (n : Int) = hi + 1) (hs : n < 2 ^ 31) (h : ∀ j, j < n → ¬ x = nI j) : x.toInt < 0 ∨ hi < x.toInt := by
  by_cases h0 : x < 0
  · rw [Int32.lt_iff_toInt_lt] at h0
    exact Or.inl h0
  · obtain ⟨j, hj, rfl⟩ := nI_of h0
    refine Or.inr ?_
    rw [nI_toInt hj]
    have : ¬ j < n := fun hl => h j hl rfl
    omega
set_option maxHeartbeats 4000000 in
set_option maxRecDepth 100000 in
theorem k_X1_byLadder (l : Launch) (G : wG) {p q1 q2 : Nat} {fb sb co le sp sw dp : Int32} {ld : Nat → Int32} {c a : Int32} : Con0 l G yX1_byLadder cX1_byLadder 3 (some .int) 0 [.ref p, .int c, .int a] [(p, ob 0 (cF q1 q2 fb sb co le sp sw dp)), (q2, aI G 16 ld)] (fun r w => r = some (.int (rByL ld c a)) ∧ w = [(p, ob 0 (cF q1 q2 fb sb co le sp sw dp)), (q2, aI G 16 ld)]) := by
  refine Con.mk (by decide +kernel) (Nat.le_of_ble_eq_true rfl) (fun P C Rr => ?_)
  refine st_iload_n C (dk DX1_byLadder_0 0 rfl) rfl ?_
  refine st_if_lt C (tgt := 20) (dk DX1_byLadder_0 1 rfl) (by decide) (fun c_1 => ?_) (fun c_1 => ?_)
  · refine st_iconst C (v := -1) (dk DX1_byLadder_0 10 rfl) (by decide) ?_
    exact Rr 0 0 _ _ _ _ _ _ (Nat.zero_le _) (Nat.zero_le _) (dk DX1_byLadder_0 11 rfl) (.inr (.inl ⟨_, rfl, rfl, rfl, rfl⟩)) rfl ⟨rfl, ⟨by first | (simp [c_1, rByL]; done) | (simp_all [rByL]; done), rfl⟩⟩
  · refine st_iload_n C (dk DX1_byLadder_0 2 rfl) rfl ?_
    refine st_bipush C (v := 16) (dk DX1_byLadder_0 3 rfl) (by decide) ?_
    refine st_icmp_ge C (tgt := 20) (dk DX1_byLadder_0 4 rfl) (by decide) (fun c_7 => ?_) (fun c_7 => ?_)
    · refine st_iconst C (v := -1) (dk DX1_byLadder_0 10 rfl) (by decide) ?_
      exact Rr 0 0 _ _ _ _ _ _ (Nat.zero_le _) (Nat.zero_le _) (dk DX1_byLadder_0 11 rfl) (.inr (.inl ⟨_, rfl, rfl, rfl, rfl⟩)) rfl ⟨rfl, ⟨by first | (simp [c_1, c_7, rByL]; done) | (simp_all [rByL]; done), rfl⟩⟩
    · refine st_iload_n C (dk DX1_byLadder_0 5 rfl) rfl ?_
      refine st_if_lt C (tgt := 20) (dk DX1_byLadder_0 6 rfl) (by decide) (fun c_11 => ?_) (fun c_11 => ?_)
      · refine st_iconst C (v := -1) (dk DX1_byLadder_0 10 rfl) (by decide) ?_
        exact Rr 0 0 _ _ _ _ _ _ (Nat.zero_le _) (Nat.zero_le _) (dk DX1_byLadder_0 11 rfl) (.inr (.inl ⟨_, rfl, rfl, rfl, rfl⟩)) rfl ⟨rfl, ⟨by first | (simp [c_1, c_7, c_11, rByL]; done) | (simp_all [rByL]; done), rfl⟩⟩
      · refine st_iload_n C (dk DX1_byLadder_0 7 rfl) rfl ?_
        refine st_bipush C (v := 16) (dk DX1_byLadder_0 8 rfl) (by decide) ?_
        refine st_icmp_lt C (tgt := 22) (dk DX1_byLadder_0 9 rfl) (by decide) (fun c_17 => ?_) (fun c_17 => ?_)
        · refine st_aload_n C (dk DX1_byLadder_0 12 rfl) rfl ?_
          refine st_get C fl_RX1_15 (dk DX1_byLadder_0 13 rfl) 0 rfl rfl ?_
          refine st_iload_n C (dk DX1_byLadder_0 14 rfl) rfl ?_
          refine st_iald C (dk DX1_byLadder_0 15 rfl) 1 rfl (vp_of (by decide) (by decide) c_1 c_7) ?_
          refine st_if_ne C (tgt := 40) (dk DX1_byLadder_0 16 rfl) (by decide) (fun c_28 => ?_) (fun c_28 => ?_)
          · refine st_iload_n C (dk DX1_byLadder_0 22 rfl) rfl ?_
            refine st_goto C (tgt := 45) (dk DX1_byLadder_0 23 rfl) (by decide) ?_
            exact Rr 0 0 _ _ _ _ _ _ (Nat.zero_le _) (Nat.zero_le _) (dk DX1_byLadder_0 25 rfl) (.inr (.inl ⟨_, rfl, rfl, rfl, rfl⟩)) rfl ⟨rfl, ⟨by first | (simp [c_1, c_7, c_11, c_17, c_28, rByL]; done) | (simp_all [rByL]; done), rfl⟩⟩
          · refine st_aload_n C (dk DX1_byLadder_0 17 rfl) rfl ?_
            refine st_get C fl_RX1_15 (dk DX1_byLadder_0 18 rfl) 0 rfl rfl ?_
            refine st_iload_n C (dk DX1_byLadder_0 19 rfl) rfl ?_
            refine st_iald C (dk DX1_byLadder_0 20 rfl) 1 rfl (vp_ofN (by decide) (by decide) c_11 c_17) ?_
            refine st_if_eq C (tgt := 44) (dk DX1_byLadder_0 21 rfl) (by decide) (fun c_37 => ?_) (fun c_37 => ?_)
            · refine st_iconst C (v := -1) (dk DX1_byLadder_0 24 rfl) (by decide) ?_
              exact Rr 0 0 _ _ _ _ _ _ (Nat.zero_le _) (Nat.zero_le _) (dk DX1_byLadder_0 25 rfl) (.inr (.inl ⟨_, rfl, rfl, rfl, rfl⟩)) rfl ⟨rfl, ⟨by first | (simp [c_1, c_7, c_11, c_17, c_28, c_37, rByL]; done) | (simp_all [rByL]; done), rfl⟩⟩
            · refine st_iload_n C (dk DX1_byLadder_0 22 rfl) rfl ?_
              refine st_goto C (tgt := 45) (dk DX1_byLadder_0 23 rfl) (by decide) ?_
              exact Rr 0 0 _ _ _ _ _ _ (Nat.zero_le _) (Nat.zero_le _) (dk DX1_byLadder_0 25 rfl) (.inr (.inl ⟨_, rfl, rfl, rfl, rfl⟩)) rfl ⟨rfl, ⟨by first | (simp [c_1, c_7, c_11, c_17, c_28, c_37, rByL]; done) | (simp_all [rByL]; done), rfl⟩⟩
        · refine st_iconst C (v := -1) (dk DX1_byLadder_0 10 rfl) (by decide) ?_
          exact Rr 0 0 _ _ _ _ _ _ (Nat.zero_le _) (Nat.zero_le _) (dk DX1_byLadder_0 11 rfl) (.inr (.inl ⟨_, rfl, rfl, rfl, rfl⟩)) rfl ⟨rfl, ⟨by first | (simp [c_1, c_7, c_11, c_17, rByL]; done) | (simp_all [rByL]; done), rfl⟩⟩
set_option maxHeartbeats 4000000 in
set_option maxRecDepth 100000 in
theorem k_X1_cellBelow (l : Launch) (G : wG) {p q1 q2 : Nat} {fb sb co le sp sw dp : Int32} {ld : Nat → Int32} {c : Int32} : Con0 l G yX1_cellBelow cX1_cellBelow 2 (some .int) 1 [.ref p, .int c] [(p, ob 0 (cF q1 q2 fb sb co le sp sw dp)), (q2, aI G 16 ld)] (fun r w => r = some (.int (rBelow ld le c)) ∧ w = [(p, ob 0 (cF q1 q2 fb sb co le sp sw dp)), (q2, aI G 16 ld)]) := by
  refine Con.mk (by decide +kernel) (Nat.le_of_ble_eq_true rfl) (fun P C Rr => ?_)
  refine st_aload_n C (dk DX1_cellBelow_0 0 rfl) rfl ?_
  refine st_iload_n C (dk DX1_cellBelow_0 1 rfl) rfl ?_
  refine st_iconst C (v := 2) (dk DX1_cellBelow_0 2 rfl) (by decide) ?_
  refine st_aload_n C (dk DX1_cellBelow_0 3 rfl) rfl ?_
  refine st_get C fl_RX1_28 (dk DX1_cellBelow_0 4 rfl) 0 rfl rfl ?_
  refine st_imul C (dk DX1_cellBelow_0 5 rfl) ?_
  refine st_aload_n C (dk DX1_cellBelow_0 6 rfl) rfl ?_
  refine st_iload_n C (dk DX1_cellBelow_0 7 rfl) rfl ?_
  refine st_cV C (k_X1_floorOf l G) mf_X1_floorOf mi_X1_floorOf ml_RX1_66 (dk DX1_cellBelow_0 8 rfl) [0] rfl rfl rfl rfl (Nat.le_of_ble_eq_true rfl) rfl rfl ⟨Nat.le_of_ble_eq_true rfl, Nat.le_of_ble_eq_true rfl⟩ ⟨Nat.zero_le _, Nat.zero_le _⟩ (fun r9 w9 hq9 => ?_)
  obtain ⟨rfl, rfl⟩ := hq9
  refine st_imul C (dk DX1_cellBelow_0 9 rfl) ?_
  refine st_iconst C (v := 1) (dk DX1_cellBelow_0 10 rfl) (by decide) ?_
  refine st_isub C (dk DX1_cellBelow_0 11 rfl) ?_
  refine st_iload_n C (dk DX1_cellBelow_0 12 rfl) rfl ?_
  refine st_isub C (dk DX1_cellBelow_0 13 rfl) ?_
  refine st_cV C (k_X1_byLadder l G) mf_X1_byLadder mi_X1_byLadder ml_RX1_69 (dk DX1_cellBelow_0 14 rfl) [0, 1] rfl rfl rfl rfl (Nat.le_of_ble_eq_true rfl) rfl rfl ⟨Nat.le_of_ble_eq_true rfl, Nat.le_of_ble_eq_true rfl⟩ ⟨Nat.zero_le _, Nat.zero_le _⟩ (fun r9 w9 hq9 => ?_)
  obtain ⟨rfl, rfl⟩ := hq9
  exact Rr 0 0 _ _ _ _ _ _ (Nat.zero_le _) (Nat.zero_le _) (dk DX1_cellBelow_0 15 rfl) (.inr (.inl ⟨_, rfl, rfl, rfl, rfl⟩)) rfl ⟨rfl, ⟨rfl, rfl⟩⟩
set_option maxHeartbeats 4000000 in
set_option maxRecDepth 100000 in
theorem k_X1_cellAbove (l : Launch) (G : wG) {p q1 q2 : Nat} {fb sb co le sp sw dp : Int32} {ld : Nat → Int32} {c : Int32} : Con0 l G yX1_cellAbove cX1_cellAbove 2 (some .int) 1 [.ref p, .int c] [(p, ob 0 (cF q1 q2 fb sb co le sp sw dp)), (q2, aI G 16 ld)] (fun r w => r = some (.int (rAbove ld le c)) ∧ w = [(p, ob 0 (cF q1 q2 fb sb co le sp sw dp)), (q2, aI G 16 ld)]) := by
  refine Con.mk (by decide +kernel) (Nat.le_of_ble_eq_true rfl) (fun P C Rr => ?_)
  refine st_aload_n C (dk DX1_cellAbove_0 0 rfl) rfl ?_
  refine st_iload_n C (dk DX1_cellAbove_0 1 rfl) rfl ?_
  refine st_iconst C (v := 2) (dk DX1_cellAbove_0 2 rfl) (by decide) ?_
  refine st_aload_n C (dk DX1_cellAbove_0 3 rfl) rfl ?_
  refine st_get C fl_RX1_28 (dk DX1_cellAbove_0 4 rfl) 0 rfl rfl ?_
  refine st_imul C (dk DX1_cellAbove_0 5 rfl) ?_
  refine st_aload_n C (dk DX1_cellAbove_0 6 rfl) rfl ?_
  refine st_iload_n C (dk DX1_cellAbove_0 7 rfl) rfl ?_
  refine st_cV C (k_X1_floorOf l G) mf_X1_floorOf mi_X1_floorOf ml_RX1_66 (dk DX1_cellAbove_0 8 rfl) [0] rfl rfl rfl rfl (Nat.le_of_ble_eq_true rfl) rfl rfl ⟨Nat.le_of_ble_eq_true rfl, Nat.le_of_ble_eq_true rfl⟩ ⟨Nat.zero_le _, Nat.zero_le _⟩ (fun r9 w9 hq9 => ?_)
  obtain ⟨rfl, rfl⟩ := hq9
  refine st_iconst C (v := 1) (dk DX1_cellAbove_0 9 rfl) (by decide) ?_
  refine st_iadd C (dk DX1_cellAbove_0 10 rfl) ?_
  refine st_imul C (dk DX1_cellAbove_0 11 rfl) ?_
  refine st_iconst C (v := 1) (dk DX1_cellAbove_0 12 rfl) (by decide) ?_
  refine st_isub C (dk DX1_cellAbove_0 13 rfl) ?_
  refine st_iload_n C (dk DX1_cellAbove_0 14 rfl) rfl ?_
  refine st_isub C (dk DX1_cellAbove_0 15 rfl) ?_
  refine st_cV C (k_X1_byLadder l G) mf_X1_byLadder mi_X1_byLadder ml_RX1_69 (dk DX1_cellAbove_0 16 rfl) [0, 1] rfl rfl rfl rfl (Nat.le_of_ble_eq_true rfl) rfl rfl ⟨Nat.le_of_ble_eq_true rfl, Nat.le_of_ble_eq_true rfl⟩ ⟨Nat.zero_le _, Nat.zero_le _⟩ (fun r9 w9 hq9 => ?_)
  obtain ⟨rfl, rfl⟩ := hq9
  exact Rr 0 0 _ _ _ _ _ _ (Nat.zero_le _) (Nat.zero_le _) (dk DX1_cellAbove_0 17 rfl) (.inr (.inl ⟨_, rfl, rfl, rfl, rfl⟩)) rfl ⟨rfl, ⟨rfl, rfl⟩⟩
set_option maxHeartbeats 4000000 in
set_option maxRecDepth 100000 in
theorem k_X1_targetOf (l : Launch) (G : wG) {p q1 q2 : Nat} {fb sb co le sp sw dp : Int32} {ld : Nat → Int32} {c a : Int32} : Con0 l G yX1_targetOf cX1_targetOf 3 (some .int) 2 [.ref p, .int c, .int a] [(p, ob 0 (cF q1 q2 fb sb co le sp sw dp)), (q2, aI G 16 ld)] (fun r w => r = some (.int (rTgt ld le c a)) ∧ w = [(p, ob 0 (cF q1 q2 fb sb co le sp sw dp)), (q2, aI G 16 ld)]) := by
  refine Con.mk (by decide +kernel) (Nat.le_of_ble_eq_true rfl) (fun P C Rr => ?_)
  refine st_iload_n C (dk DX1_targetOf_0 0 rfl) rfl ?_
  by_cases t_1_0 : a = 0
  · refine st_tswIn C (off := 31) (tgt := 32) (dk DX1_targetOf_0 1 rfl) (by rw [t_1_0]; decide) (by rw [t_1_0]; decide) (by rw [t_1_0]; rfl) (by decide) ?_
    refine st_iload_n C (dk DX1_targetOf_0 2 rfl) rfl ?_
    refine st_if_le C (tgt := 42) (dk DX1_targetOf_0 3 rfl) (by decide) (fun c_33 => ?_) (fun c_33 => ?_)
    · refine st_iconst C (v := -1) (dk DX1_targetOf_0 8 rfl) (by decide) ?_
      exact Rr 0 0 _ _ _ _ _ _ (Nat.zero_le _) (Nat.zero_le _) (dk DX1_targetOf_0 9 rfl) (.inr (.inl ⟨_, rfl, rfl, rfl, rfl⟩)) rfl ⟨rfl, ⟨by first | (simp [t_1_0, c_33, rTgt]; done) | (simp_all [rTgt]; done), rfl⟩⟩
    · refine st_iload_n C (dk DX1_targetOf_0 4 rfl) rfl ?_
      refine st_iconst C (v := 1) (dk DX1_targetOf_0 5 rfl) (by decide) ?_
      refine st_isub C (dk DX1_targetOf_0 6 rfl) ?_
      refine st_goto C (tgt := 43) (dk DX1_targetOf_0 7 rfl) (by decide) ?_
      exact Rr 0 0 _ _ _ _ _ _ (Nat.zero_le _) (Nat.zero_le _) (dk DX1_targetOf_0 9 rfl) (.inr (.inl ⟨_, rfl, rfl, rfl, rfl⟩)) rfl ⟨rfl, ⟨by first | (simp [t_1_0, c_33, rTgt]; done) | (simp_all [rTgt]; done), rfl⟩⟩
  by_cases t_1_1 : a = 1
  · refine st_tswIn C (off := 43) (tgt := 44) (dk DX1_targetOf_0 1 rfl) (by rw [t_1_1]; decide) (by rw [t_1_1]; decide) (by rw [t_1_1]; rfl) (by decide) ?_
    refine st_iload_n C (dk DX1_targetOf_0 10 rfl) rfl ?_
    refine st_bipush C (v := 15) (dk DX1_targetOf_0 11 rfl) (by decide) ?_
    refine st_icmp_ge C (tgt := 56) (dk DX1_targetOf_0 12 rfl) (by decide) (fun c_47 => ?_) (fun c_47 => ?_)
    · refine st_iconst C (v := -1) (dk DX1_targetOf_0 17 rfl) (by decide) ?_
      exact Rr 0 0 _ _ _ _ _ _ (Nat.zero_le _) (Nat.zero_le _) (dk DX1_targetOf_0 18 rfl) (.inr (.inl ⟨_, rfl, rfl, rfl, rfl⟩)) rfl ⟨rfl, ⟨by first | (simp [t_1_1, c_47, rTgt]; done) | (simp_all [rTgt]; done), rfl⟩⟩
    · refine st_iload_n C (dk DX1_targetOf_0 13 rfl) rfl ?_
      refine st_iconst C (v := 1) (dk DX1_targetOf_0 14 rfl) (by decide) ?_
      refine st_iadd C (dk DX1_targetOf_0 15 rfl) ?_
      refine st_goto C (tgt := 57) (dk DX1_targetOf_0 16 rfl) (by decide) ?_
      exact Rr 0 0 _ _ _ _ _ _ (Nat.zero_le _) (Nat.zero_le _) (dk DX1_targetOf_0 18 rfl) (.inr (.inl ⟨_, rfl, rfl, rfl, rfl⟩)) rfl ⟨rfl, ⟨by first | (simp [t_1_1, c_47, rTgt]; done) | (simp_all [rTgt]; done), rfl⟩⟩
  by_cases t_1_2 : a = 2
  · refine st_tswIn C (off := 57) (tgt := 58) (dk DX1_targetOf_0 1 rfl) (by rw [t_1_2]; decide) (by rw [t_1_2]; decide) (by rw [t_1_2]; rfl) (by decide) ?_
    refine st_aload_n C (dk DX1_targetOf_0 19 rfl) rfl ?_
    refine st_iload_n C (dk DX1_targetOf_0 20 rfl) rfl ?_
    refine st_cV C (k_X1_cellBelow l G) mf_X1_cellBelow mi_X1_cellBelow ml_RX1_88 (dk DX1_targetOf_0 21 rfl) [0, 1] rfl rfl rfl rfl (Nat.le_of_ble_eq_true rfl) rfl rfl ⟨Nat.le_of_ble_eq_true rfl, Nat.le_of_ble_eq_true rfl⟩ ⟨Nat.zero_le _, Nat.zero_le _⟩ (fun r9 w9 hq9 => ?_)
    obtain ⟨rfl, rfl⟩ := hq9
    exact Rr 0 0 _ _ _ _ _ _ (Nat.zero_le _) (Nat.zero_le _) (dk DX1_targetOf_0 22 rfl) (.inr (.inl ⟨_, rfl, rfl, rfl, rfl⟩)) rfl ⟨rfl, ⟨by first | (simp [t_1_2, rTgt]; done) | (simp_all [rTgt]; done), rfl⟩⟩
  by_cases t_1_3 : a = 3
  · refine st_tswIn C (off := 63) (tgt := 64) (dk DX1_targetOf_0 1 rfl) (by rw [t_1_3]; decide) (by rw [t_1_3]; decide) (by rw [t_1_3]; rfl) (by decide) ?_
    refine st_aload_n C (dk DX1_targetOf_0 23 rfl) rfl ?_
    refine st_iload_n C (dk DX1_targetOf_0 24 rfl) rfl ?_
    refine st_cV C (k_X1_cellAbove l G) mf_X1_cellAbove mi_X1_cellAbove ml_RX1_63 (dk DX1_targetOf_0 25 rfl) [0, 1] rfl rfl rfl rfl (Nat.le_of_ble_eq_true rfl) rfl rfl ⟨Nat.le_of_ble_eq_true rfl, Nat.le_of_ble_eq_true rfl⟩ ⟨Nat.zero_le _, Nat.zero_le _⟩ (fun r9 w9 hq9 => ?_)
    obtain ⟨rfl, rfl⟩ := hq9
    exact Rr 0 0 _ _ _ _ _ _ (Nat.zero_le _) (Nat.zero_le _) (dk DX1_targetOf_0 26 rfl) (.inr (.inl ⟨_, rfl, rfl, rfl, rfl⟩)) rfl ⟨rfl, ⟨by first | (simp [t_1_3, rTgt]; done) | (simp_all [rTgt]; done), rfl⟩⟩
  refine st_tswOut C (tgt := 70) (dk DX1_targetOf_0 1 rfl) (tsw_out 4 (by decide) (by decide) (fun j hj => match j, hj with | 0, _ => t_1_0 | 1, _ => t_1_1 | 2, _ => t_1_2 | 3, _ => t_1_3)) (by decide) ?_
  refine st_iconst C (v := -1) (dk DX1_targetOf_0 27 rfl) (by decide) ?_
  exact Rr 0 0 _ _ _ _ _ _ (Nat.zero_le _) (Nat.zero_le _) (dk DX1_targetOf_0 28 rfl) (.inr (.inl ⟨_, rfl, rfl, rfl, rfl⟩)) rfl ⟨rfl, ⟨by first | (simp [t_1_0, t_1_1, t_1_2, t_1_3, rTgt]; done) | (simp_all [rTgt]; done), rfl⟩⟩
set_option maxHeartbeats 4000000 in
set_option maxRecDepth 100000 in
theorem k_X1_lockOnWay (l : Launch) (G : wG) {p q1 q2 : Nat} {fb sb co le sp sw dp : Int32} {lk : Nat → Int32} {c a : Int32} : Con0 l G yX1_lockOnWay cX1_lockOnWay 3 (some .int) 2 [.ref p, .int c, .int a] [(p, ob 0 (cF q1 q2 fb sb co le sp sw dp)), (q1, aI G 15 lk)] (fun r w => r = some (.int (rWay lk c a)) ∧ w = [(p, ob 0 (cF q1 q2 fb sb co le sp sw dp)), (q1, aI G 15 lk)]) := by
  refine Con.mk (by decide +kernel) (Nat.le_of_ble_eq_true rfl) (fun P C Rr => ?_)
  refine st_iload_n C (dk DX1_lockOnWay_0 0 rfl) rfl ?_
  refine st_if_ne C (tgt := 12) (dk DX1_lockOnWay_0 1 rfl) (by decide) (fun c_1 => ?_) (fun c_1 => ?_)
  · refine st_iload_n C (dk DX1_lockOnWay_0 8 rfl) rfl ?_
    refine st_iconst C (v := 1) (dk DX1_lockOnWay_0 9 rfl) (by decide) ?_
    refine st_icmp_ne C (tgt := 25) (dk DX1_lockOnWay_0 10 rfl) (by decide) (fun c_14 => ?_) (fun c_14 => ?_)
    · refine st_iconst C (v := 0) (dk DX1_lockOnWay_0 15 rfl) (by decide) ?_
      exact Rr 0 0 _ _ _ _ _ _ (Nat.zero_le _) (Nat.zero_le _) (dk DX1_lockOnWay_0 16 rfl) (.inr (.inl ⟨_, rfl, rfl, rfl, rfl⟩)) rfl ⟨rfl, ⟨by first | (simp [c_1, c_14, rWay]; done) | (simp_all [rWay]; done), rfl⟩⟩
    · refine st_aload_n C (dk DX1_lockOnWay_0 11 rfl) rfl ?_
      refine st_iload_n C (dk DX1_lockOnWay_0 12 rfl) rfl ?_
      refine st_cV C (k_X1_lockBehind l G) mf_X1_lockBehind mi_X1_lockBehind ml_RX1_91 (dk DX1_lockOnWay_0 13 rfl) [0, 1] rfl rfl rfl rfl (Nat.le_of_ble_eq_true rfl) rfl rfl ⟨Nat.le_of_ble_eq_true rfl, Nat.le_of_ble_eq_true rfl⟩ ⟨Nat.zero_le _, Nat.zero_le _⟩ (fun r9 w9 hq9 => ?_)
      obtain ⟨rfl, rfl⟩ := hq9
      refine st_goto C (tgt := 26) (dk DX1_lockOnWay_0 14 rfl) (by decide) ?_
      exact Rr 0 0 _ _ _ _ _ _ (Nat.zero_le _) (Nat.zero_le _) (dk DX1_lockOnWay_0 16 rfl) (.inr (.inl ⟨_, rfl, rfl, rfl, rfl⟩)) rfl ⟨rfl, ⟨by first | (simp [c_1, c_14, rWay]; done) | (simp_all [rWay]; done), rfl⟩⟩
  · refine st_aload_n C (dk DX1_lockOnWay_0 2 rfl) rfl ?_
    refine st_iload_n C (dk DX1_lockOnWay_0 3 rfl) rfl ?_
    refine st_iconst C (v := 1) (dk DX1_lockOnWay_0 4 rfl) (by decide) ?_
    refine st_isub C (dk DX1_lockOnWay_0 5 rfl) ?_
    refine st_cV C (k_X1_lockBehind l G) mf_X1_lockBehind mi_X1_lockBehind ml_RX1_91 (dk DX1_lockOnWay_0 6 rfl) [0, 1] rfl rfl rfl rfl (Nat.le_of_ble_eq_true rfl) rfl rfl ⟨Nat.le_of_ble_eq_true rfl, Nat.le_of_ble_eq_true rfl⟩ ⟨Nat.zero_le _, Nat.zero_le _⟩ (fun r9 w9 hq9 => ?_)
    obtain ⟨rfl, rfl⟩ := hq9
    exact Rr 0 0 _ _ _ _ _ _ (Nat.zero_le _) (Nat.zero_le _) (dk DX1_lockOnWay_0 7 rfl) (.inr (.inl ⟨_, rfl, rfl, rfl, rfl⟩)) rfl ⟨rfl, ⟨by first | (simp [c_1, rWay]; done) | (simp_all [rWay]; done), rfl⟩⟩
set_option maxHeartbeats 4000000 in
set_option maxRecDepth 100000 in
theorem k_X1_after (l : Launch) (G : wG) {p q1 q2 : Nat} {fb sb co le sp sw dp : Int32} {lk ld : Nat → Int32} {x a : Int32} : Con0 l G yX1_after cX1_after 6 (some .int) 3 [.ref p, .int x, .int a] [(p, ob 0 (cF q1 q2 fb sb co le sp sw dp)), (q1, aI G 15 lk), (q2, aI G 16 ld)] (fun r w => r = some (.int (rAft lk ld fb sb le x a)) ∧ w = [(p, ob 0 (cF q1 q2 fb sb co le sp sw dp)), (q1, aI G 15 lk), (q2, aI G 16 ld)]) := by
  refine Con.mk (by decide +kernel) (Nat.le_of_ble_eq_true rfl) (fun P C Rr => ?_)
  refine st_iload_n C (dk DX1_after_0 0 rfl) rfl ?_
  refine st_cS C (k_X0_cellOf l G) mf_X0_cellOf ms_X0_cellOf ml_RX1_60 (dk DX1_after_0 1 rfl) [] rfl rfl rfl rfl (Nat.le_of_ble_eq_true rfl) ⟨Nat.le_of_ble_eq_true rfl, Nat.le_of_ble_eq_true rfl⟩ ⟨Nat.zero_le _, Nat.zero_le _⟩ (fun r9 w9 hq9 => ?_)
  obtain ⟨rfl, rfl⟩ := hq9
  refine st_istore_n C (dk DX1_after_0 2 rfl) (by decide) rfl ?_
  refine st_iload_n C (dk DX1_after_0 3 rfl) rfl ?_
  refine st_iconst C (v := 4) (dk DX1_after_0 4 rfl) (by decide) ?_
  refine st_icmp_ne C (tgt := 50) (dk DX1_after_0 5 rfl) (by decide) (fun c_7 => ?_) (fun c_7 => ?_)
  · refine st_aload_n C (dk DX1_after_0 27 rfl) rfl ?_
    refine st_iload_n C (dk DX1_after_0 28 rfl) rfl ?_
    refine st_iload_n C (dk DX1_after_0 29 rfl) rfl ?_
    refine st_cV C (k_X1_targetOf l G) mf_X1_targetOf mi_X1_targetOf ml_RX1_79 (dk DX1_after_0 30 rfl) [0, 2] rfl rfl rfl rfl (Nat.le_of_ble_eq_true rfl) rfl rfl ⟨Nat.le_of_ble_eq_true rfl, Nat.le_of_ble_eq_true rfl⟩ ⟨Nat.zero_le _, Nat.zero_le _⟩ (fun r9 w9 hq9 => ?_)
    obtain ⟨rfl, rfl⟩ := hq9
    refine st_istore C (dk DX1_after_0 31 rfl) (by decide) rfl ?_
    refine st_iload C (dk DX1_after_0 32 rfl) rfl ?_
    refine st_iconst C (v := -1) (dk DX1_after_0 33 rfl) (by decide) ?_
    refine st_icmp_ne C (tgt := 66) (dk DX1_after_0 34 rfl) (by decide) (fun c_61 => ?_) (fun c_61 => ?_)
    · refine st_aload_n C (dk DX1_after_0 37 rfl) rfl ?_
      refine st_iload_n C (dk DX1_after_0 38 rfl) rfl ?_
      refine st_iload_n C (dk DX1_after_0 39 rfl) rfl ?_
      refine st_cV C (k_X1_lockOnWay l G) mf_X1_lockOnWay mi_X1_lockOnWay ml_RX1_82 (dk DX1_after_1 0 rfl) [0, 1] rfl rfl rfl rfl (Nat.le_of_ble_eq_true rfl) rfl rfl ⟨Nat.le_of_ble_eq_true rfl, Nat.le_of_ble_eq_true rfl⟩ ⟨Nat.zero_le _, Nat.zero_le _⟩ (fun r9 w9 hq9 => ?_)
      obtain ⟨rfl, rfl⟩ := hq9
      refine st_istore C (dk DX1_after_1 1 rfl) (by decide) rfl ?_
      refine st_iload C (dk DX1_after_1 2 rfl) rfl ?_
      refine st_if_eq C (tgt := 94) (dk DX1_after_1 3 rfl) (by decide) (fun c_76 => ?_) (fun c_76 => ?_)
      · refine st_iload_n C (dk DX1_after_1 12 rfl) rfl ?_
        refine st_iload C (dk DX1_after_1 13 rfl) rfl ?_
        refine st_cS C (k_X0_movedTo l G) mf_X0_movedTo ms_X0_movedTo ml_RX1_85 (dk DX1_after_1 14 rfl) [] rfl rfl rfl rfl (Nat.le_of_ble_eq_true rfl) ⟨Nat.le_of_ble_eq_true rfl, Nat.le_of_ble_eq_true rfl⟩ ⟨Nat.zero_le _, Nat.zero_le _⟩ (fun r9 w9 hq9 => ?_)
        obtain ⟨rfl, rfl⟩ := hq9
        exact Rr 0 0 _ _ _ _ _ _ (Nat.zero_le _) (Nat.zero_le _) (dk DX1_after_1 15 rfl) (.inr (.inl ⟨_, rfl, rfl, rfl, rfl⟩)) rfl ⟨rfl, ⟨by first | (simp [c_7, c_61, c_76, rAft]; done) | (simp_all [rAft]; done), rfl⟩⟩
      · refine st_iload C (dk DX1_after_1 4 rfl) rfl ?_
        refine st_aload_n C (dk DX1_after_1 5 rfl) rfl ?_
        refine st_iload_n C (dk DX1_after_1 6 rfl) rfl ?_
        refine st_bipush C (v := 16) (dk DX1_after_1 7 rfl) (by decide) ?_
        refine st_cV C (k_X1_bowIn l G) mf_X1_bowIn mi_X1_bowIn ml_RX1_73 (dk DX1_after_1 8 rfl) [0] rfl rfl rfl rfl (Nat.le_of_ble_eq_true rfl) rfl rfl ⟨Nat.le_of_ble_eq_true rfl, Nat.le_of_ble_eq_true rfl⟩ ⟨Nat.zero_le _, Nat.zero_le _⟩ (fun r9 w9 hq9 => ?_)
        obtain ⟨rfl, rfl⟩ := hq9
        refine st_icmp_eq C (tgt := 94) (dk DX1_after_1 9 rfl) (by decide) (fun c_88 => ?_) (fun c_88 => ?_)
        · refine st_iload_n C (dk DX1_after_1 12 rfl) rfl ?_
          refine st_iload C (dk DX1_after_1 13 rfl) rfl ?_
          refine st_cS C (k_X0_movedTo l G) mf_X0_movedTo ms_X0_movedTo ml_RX1_85 (dk DX1_after_1 14 rfl) [] rfl rfl rfl rfl (Nat.le_of_ble_eq_true rfl) ⟨Nat.le_of_ble_eq_true rfl, Nat.le_of_ble_eq_true rfl⟩ ⟨Nat.zero_le _, Nat.zero_le _⟩ (fun r9 w9 hq9 => ?_)
          obtain ⟨rfl, rfl⟩ := hq9
          exact Rr 0 0 _ _ _ _ _ _ (Nat.zero_le _) (Nat.zero_le _) (dk DX1_after_1 15 rfl) (.inr (.inl ⟨_, rfl, rfl, rfl, rfl⟩)) rfl ⟨rfl, ⟨by first | (simp [c_7, c_61, c_76, c_88, rAft]; done) | (simp_all [rAft]; done), rfl⟩⟩
        · refine st_bipush C (v := -2) (dk DX1_after_1 10 rfl) (by decide) ?_
          exact Rr 0 0 _ _ _ _ _ _ (Nat.zero_le _) (Nat.zero_le _) (dk DX1_after_1 11 rfl) (.inr (.inl ⟨_, rfl, rfl, rfl, rfl⟩)) rfl ⟨rfl, ⟨by first | (simp [c_7, c_61, c_76, c_88, rAft]; done) | (simp_all [rAft]; done), rfl⟩⟩
    · refine st_iconst C (v := -1) (dk DX1_after_0 35 rfl) (by decide) ?_
      exact Rr 0 0 _ _ _ _ _ _ (Nat.zero_le _) (Nat.zero_le _) (dk DX1_after_0 36 rfl) (.inr (.inl ⟨_, rfl, rfl, rfl, rfl⟩)) rfl ⟨rfl, ⟨by first | (simp [c_7, c_61, rAft]; done) | (simp_all [rAft]; done), rfl⟩⟩
  · refine st_aload_n C (dk DX1_after_0 6 rfl) rfl ?_
    refine st_iload_n C (dk DX1_after_0 7 rfl) rfl ?_
    refine st_bipush C (v := 16) (dk DX1_after_0 8 rfl) (by decide) ?_
    refine st_cV C (k_X1_bowIn l G) mf_X1_bowIn mi_X1_bowIn ml_RX1_73 (dk DX1_after_0 9 rfl) [0] rfl rfl rfl rfl (Nat.le_of_ble_eq_true rfl) rfl rfl ⟨Nat.le_of_ble_eq_true rfl, Nat.le_of_ble_eq_true rfl⟩ ⟨Nat.zero_le _, Nat.zero_le _⟩ (fun r9 w9 hq9 => ?_)
    obtain ⟨rfl, rfl⟩ := hq9
    refine st_if_ne C (tgt := 33) (dk DX1_after_0 10 rfl) (by decide) (fun c_17 => ?_) (fun c_17 => ?_)
    · refine st_iconst C (v := 0) (dk DX1_after_0 18 rfl) (by decide) ?_
      refine st_istore C (dk DX1_after_0 19 rfl) (by decide) rfl ?_
      refine st_iload C (dk DX1_after_0 20 rfl) rfl ?_
      refine st_if_eq C (tgt := 45) (dk DX1_after_0 21 rfl) (by decide) (fun c_38 => ?_) (fun c_38 => ?_)
      · refine st_iload_n C (dk DX1_after_0 24 rfl) rfl ?_
        refine st_cS C (k_X0_swapped l G) mf_X0_swapped ms_X0_swapped ml_RX1_76 (dk DX1_after_0 25 rfl) [] rfl rfl rfl rfl (Nat.le_of_ble_eq_true rfl) ⟨Nat.le_of_ble_eq_true rfl, Nat.le_of_ble_eq_true rfl⟩ ⟨Nat.zero_le _, Nat.zero_le _⟩ (fun r9 w9 hq9 => ?_)
        obtain ⟨rfl, rfl⟩ := hq9
        exact Rr 0 0 _ _ _ _ _ _ (Nat.zero_le _) (Nat.zero_le _) (dk DX1_after_0 26 rfl) (.inr (.inl ⟨_, rfl, rfl, rfl, rfl⟩)) rfl ⟨rfl, ⟨by first | (simp [c_7, c_17, c_38, rAft]; done) | (simp_all [rAft]; done), rfl⟩⟩
      · refine st_iconst C (v := -1) (dk DX1_after_0 22 rfl) (by decide) ?_
        refine st_goto C (tgt := 49) (dk DX1_after_0 23 rfl) (by decide) ?_
        exact Rr 0 0 _ _ _ _ _ _ (Nat.zero_le _) (Nat.zero_le _) (dk DX1_after_0 26 rfl) (.inr (.inl ⟨_, rfl, rfl, rfl, rfl⟩)) rfl ⟨rfl, ⟨by first | (simp [c_7, c_17, c_38, rAft]; done) | (simp_all [rAft]; done), rfl⟩⟩
    · refine st_aload_n C (dk DX1_after_0 11 rfl) rfl ?_
      refine st_iload_n C (dk DX1_after_0 12 rfl) rfl ?_
      refine st_iload_n C (dk DX1_after_0 13 rfl) rfl ?_
      refine st_cV C (k_X1_bowIn l G) mf_X1_bowIn mi_X1_bowIn ml_RX1_73 (dk DX1_after_0 14 rfl) [0] rfl rfl rfl rfl (Nat.le_of_ble_eq_true rfl) rfl rfl ⟨Nat.le_of_ble_eq_true rfl, Nat.le_of_ble_eq_true rfl⟩ ⟨Nat.zero_le _, Nat.zero_le _⟩ (fun r9 w9 hq9 => ?_)
      obtain ⟨rfl, rfl⟩ := hq9
      refine st_if_ne C (tgt := 33) (dk DX1_after_0 15 rfl) (by decide) (fun c_26 => ?_) (fun c_26 => ?_)
      · refine st_iconst C (v := 0) (dk DX1_after_0 18 rfl) (by decide) ?_
        refine st_istore C (dk DX1_after_0 19 rfl) (by decide) rfl ?_
        refine st_iload C (dk DX1_after_0 20 rfl) rfl ?_
        refine st_if_eq C (tgt := 45) (dk DX1_after_0 21 rfl) (by decide) (fun c_38 => ?_) (fun c_38 => ?_)
        · refine st_iload_n C (dk DX1_after_0 24 rfl) rfl ?_
          refine st_cS C (k_X0_swapped l G) mf_X0_swapped ms_X0_swapped ml_RX1_76 (dk DX1_after_0 25 rfl) [] rfl rfl rfl rfl (Nat.le_of_ble_eq_true rfl) ⟨Nat.le_of_ble_eq_true rfl, Nat.le_of_ble_eq_true rfl⟩ ⟨Nat.zero_le _, Nat.zero_le _⟩ (fun r9 w9 hq9 => ?_)
          obtain ⟨rfl, rfl⟩ := hq9
          exact Rr 0 0 _ _ _ _ _ _ (Nat.zero_le _) (Nat.zero_le _) (dk DX1_after_0 26 rfl) (.inr (.inl ⟨_, rfl, rfl, rfl, rfl⟩)) rfl ⟨rfl, ⟨by first | (simp [c_7, c_17, c_26, c_38, rAft]; done) | (simp_all [rAft]; done), rfl⟩⟩
        · refine st_iconst C (v := -1) (dk DX1_after_0 22 rfl) (by decide) ?_
          refine st_goto C (tgt := 49) (dk DX1_after_0 23 rfl) (by decide) ?_
          exact Rr 0 0 _ _ _ _ _ _ (Nat.zero_le _) (Nat.zero_le _) (dk DX1_after_0 26 rfl) (.inr (.inl ⟨_, rfl, rfl, rfl, rfl⟩)) rfl ⟨rfl, ⟨by first | (simp [c_7, c_17, c_26, c_38, rAft]; done) | (simp_all [rAft]; done), rfl⟩⟩
      · refine st_iconst C (v := 1) (dk DX1_after_0 16 rfl) (by decide) ?_
        refine st_goto C (tgt := 34) (dk DX1_after_0 17 rfl) (by decide) ?_
        refine st_istore C (dk DX1_after_0 19 rfl) (by decide) rfl ?_
        refine st_iload C (dk DX1_after_0 20 rfl) rfl ?_
        refine st_if_eq C (tgt := 45) (dk DX1_after_0 21 rfl) (by decide) (fun c_38 => ?_) (fun c_38 => ?_)
        · refine st_iload_n C (dk DX1_after_0 24 rfl) rfl ?_
          refine st_cS C (k_X0_swapped l G) mf_X0_swapped ms_X0_swapped ml_RX1_76 (dk DX1_after_0 25 rfl) [] rfl rfl rfl rfl (Nat.le_of_ble_eq_true rfl) ⟨Nat.le_of_ble_eq_true rfl, Nat.le_of_ble_eq_true rfl⟩ ⟨Nat.zero_le _, Nat.zero_le _⟩ (fun r9 w9 hq9 => ?_)
          obtain ⟨rfl, rfl⟩ := hq9
          exact Rr 0 0 _ _ _ _ _ _ (Nat.zero_le _) (Nat.zero_le _) (dk DX1_after_0 26 rfl) (.inr (.inl ⟨_, rfl, rfl, rfl, rfl⟩)) rfl ⟨rfl, ⟨by first | (simp [c_7, c_17, c_26, c_38, rAft]; done) | (simp_all [rAft]; done), rfl⟩⟩
        · refine st_iconst C (v := -1) (dk DX1_after_0 22 rfl) (by decide) ?_
          refine st_goto C (tgt := 49) (dk DX1_after_0 23 rfl) (by decide) ?_
          exact Rr 0 0 _ _ _ _ _ _ (Nat.zero_le _) (Nat.zero_le _) (dk DX1_after_0 26 rfl) (.inr (.inl ⟨_, rfl, rfl, rfl, rfl⟩)) rfl ⟨rfl, ⟨by first | (simp [c_7, c_17, c_26, c_38, rAft]; done) | (simp_all [rAft]; done), rfl⟩⟩
set_option maxHeartbeats 4000000 in
set_option maxRecDepth 100000 in
theorem k_X1_reasonAgainst (l : Launch) (G : wG) {p q1 q2 : Nat} {fb sb co le sp sw dp : Int32} {lk ld : Nat → Int32} {a : Int32} : Con0 l G yX1_reasonAgainst cX1_reasonAgainst 3 (some .int) 4 [.ref p, .int a] [(p, ob 0 (cF q1 q2 fb sb co le sp sw dp)), (q1, aI G 15 lk), (q2, aI G 16 ld)] (fun r w => r = some (.int (rReas lk ld fb sb le co a)) ∧ w = [(p, ob 0 (cF q1 q2 fb sb co le sp sw dp)), (q1, aI G 15 lk), (q2, aI G 16 ld)]) := by
  refine Con.mk (by decide +kernel) (Nat.le_of_ble_eq_true rfl) (fun P C Rr => ?_)
  refine st_aload_n C (dk DX1_reasonAgainst_0 0 rfl) rfl ?_
  refine st_aload_n C (dk DX1_reasonAgainst_0 1 rfl) rfl ?_
  refine st_get C fl_RX1_24 (dk DX1_reasonAgainst_0 2 rfl) 0 rfl rfl ?_
  refine st_iload_n C (dk DX1_reasonAgainst_0 3 rfl) rfl ?_
  refine st_cV C (k_X1_after l G) mf_X1_after mi_X1_after ml_RX1_94 (dk DX1_reasonAgainst_0 4 rfl) [0, 1, 2] rfl rfl rfl rfl (Nat.le_of_ble_eq_true rfl) rfl rfl ⟨Nat.le_of_ble_eq_true rfl, Nat.le_of_ble_eq_true rfl⟩ ⟨Nat.zero_le _, Nat.zero_le _⟩ (fun r9 w9 hq9 => ?_)
  obtain ⟨rfl, rfl⟩ := hq9
  refine st_istore_n C (dk DX1_reasonAgainst_0 5 rfl) (by decide) rfl ?_
  refine st_iload_n C (dk DX1_reasonAgainst_0 6 rfl) rfl ?_
  refine st_if_ge C (tgt := 19) (dk DX1_reasonAgainst_0 7 rfl) (by decide) (fun c_11 => ?_) (fun c_11 => ?_)
  · refine st_iconst C (v := 0) (dk DX1_reasonAgainst_0 11 rfl) (by decide) ?_
    exact Rr 0 0 _ _ _ _ _ _ (Nat.zero_le _) (Nat.zero_le _) (dk DX1_reasonAgainst_0 12 rfl) (.inr (.inl ⟨_, rfl, rfl, rfl, rfl⟩)) rfl ⟨rfl, ⟨by first | (simp [c_11, rReas]; done) | (simp_all [rReas]; done), rfl⟩⟩
  · refine st_iload_n C (dk DX1_reasonAgainst_0 8 rfl) rfl ?_
    refine st_ineg C (dk DX1_reasonAgainst_0 9 rfl) ?_
    refine st_goto C (tgt := 20) (dk DX1_reasonAgainst_0 10 rfl) (by decide) ?_
    exact Rr 0 0 _ _ _ _ _ _ (Nat.zero_le _) (Nat.zero_le _) (dk DX1_reasonAgainst_0 12 rfl) (.inr (.inl ⟨_, rfl, rfl, rfl, rfl⟩)) rfl ⟨rfl, ⟨by first | (simp [c_11, rReas]; done) | (simp_all [rReas]; done), rfl⟩⟩
set_option maxHeartbeats 4000000 in
set_option maxRecDepth 100000 in
theorem k_X1_setLock (l : Launch) (G : wG) {p q1 q2 : Nat} {fb sb co le sp sw dp : Int32} {lk : Nat → Int32} {c v : Int32} : Con0 l G yX1_setLock cX1_setLock 3 none 1 [.ref p, .int c, .int v] [(p, ob 0 (cF q1 q2 fb sb co le sp sw dp)), (q1, aI G 15 lk)] (fun r w => r = none ∧ w = [(p, ob 0 (cF q1 q2 fb sb co le sp sw dp)), (q1, aI G 15 (rSetA lk 15 c v))]) := by
  refine Con.mk (by decide +kernel) (Nat.le_of_ble_eq_true rfl) (fun P C Rr => ?_)
  refine st_iload_n C (dk DX1_setLock_0 0 rfl) rfl ?_
  refine st_cS C (k_X5_isDoor l G) mf_X5_isDoor ms_X5_isDoor ml_RX1_46 (dk DX1_setLock_0 1 rfl) [] rfl rfl rfl rfl (Nat.le_of_ble_eq_true rfl) ⟨Nat.le_of_ble_eq_true rfl, Nat.le_of_ble_eq_true rfl⟩ ⟨Nat.zero_le _, Nat.zero_le _⟩ (fun r9 w9 hq9 => ?_)
  obtain ⟨rfl, rfl⟩ := hq9
  refine st_if_eq C (tgt := 14) (dk DX1_setLock_0 2 rfl) (by decide) (fun c_4 => ?_) (fun c_4 => ?_)
  · exact Rr 0 0 _ _ _ _ _ _ (Nat.zero_le _) (Nat.zero_le _) (dk DX1_setLock_0 8 rfl) (.inl ⟨rfl, rfl, rfl, rfl⟩) rfl ⟨rfl, ⟨rfl, by first | (simp [c_4, rSetA]; done) | (simp [c_4, rSetA]; rfl) | (simp_all [rSetA]; done) | (simp_all [rSetA]; rfl)⟩⟩
  · refine st_aload_n C (dk DX1_setLock_0 3 rfl) rfl ?_
    refine st_get C fl_RX1_9 (dk DX1_setLock_0 4 rfl) 0 rfl rfl ?_
    refine st_iload_n C (dk DX1_setLock_0 5 rfl) rfl ?_
    refine st_iload_n C (dk DX1_setLock_0 6 rfl) rfl ?_
    refine st_iast C (dk DX1_setLock_0 7 rfl) 1 rfl (rIn_vp (by decide) (by decide) c_4) ?_
    exact Rr 0 0 _ _ _ _ _ _ (Nat.zero_le _) (Nat.zero_le _) (dk DX1_setLock_0 8 rfl) (.inl ⟨rfl, rfl, rfl, rfl⟩) rfl ⟨rfl, ⟨rfl, by first | (simp [c_4, rSetA]; done) | (simp [c_4, rSetA]; rfl) | (simp_all [rSetA]; done) | (simp_all [rSetA]; rfl)⟩⟩
set_option maxHeartbeats 4000000 in
set_option maxRecDepth 100000 in
theorem k_X1_setLadder (l : Launch) (G : wG) {p q1 q2 : Nat} {fb sb co le sp sw dp : Int32} {ld : Nat → Int32} {c v : Int32} : Con0 l G yX1_setLadder cX1_setLadder 3 none 1 [.ref p, .int c, .int v] [(p, ob 0 (cF q1 q2 fb sb co le sp sw dp)), (q2, aI G 16 ld)] (fun r w => r = none ∧ w = [(p, ob 0 (cF q1 q2 fb sb co le sp sw dp)), (q2, aI G 16 (rSetA ld 16 c v))]) := by
  refine Con.mk (by decide +kernel) (Nat.le_of_ble_eq_true rfl) (fun P C Rr => ?_)
  refine st_iload_n C (dk DX1_setLadder_0 0 rfl) rfl ?_
  refine st_cS C (k_X5_isCell l G) mf_X5_isCell ms_X5_isCell ml_RX1_50 (dk DX1_setLadder_0 1 rfl) [] rfl rfl rfl rfl (Nat.le_of_ble_eq_true rfl) ⟨Nat.le_of_ble_eq_true rfl, Nat.le_of_ble_eq_true rfl⟩ ⟨Nat.zero_le _, Nat.zero_le _⟩ (fun r9 w9 hq9 => ?_)
  obtain ⟨rfl, rfl⟩ := hq9
  refine st_if_eq C (tgt := 14) (dk DX1_setLadder_0 2 rfl) (by decide) (fun c_4 => ?_) (fun c_4 => ?_)
  · exact Rr 0 0 _ _ _ _ _ _ (Nat.zero_le _) (Nat.zero_le _) (dk DX1_setLadder_0 8 rfl) (.inl ⟨rfl, rfl, rfl, rfl⟩) rfl ⟨rfl, ⟨rfl, by first | (simp [c_4, rSetA]; done) | (simp [c_4, rSetA]; rfl) | (simp_all [rSetA]; done) | (simp_all [rSetA]; rfl)⟩⟩
  · refine st_aload_n C (dk DX1_setLadder_0 3 rfl) rfl ?_
    refine st_get C fl_RX1_15 (dk DX1_setLadder_0 4 rfl) 0 rfl rfl ?_
    refine st_iload_n C (dk DX1_setLadder_0 5 rfl) rfl ?_
    refine st_iload_n C (dk DX1_setLadder_0 6 rfl) rfl ?_
    refine st_iast C (dk DX1_setLadder_0 7 rfl) 1 rfl (rIn_vp (by decide) (by decide) c_4) ?_
    exact Rr 0 0 _ _ _ _ _ _ (Nat.zero_le _) (Nat.zero_le _) (dk DX1_setLadder_0 8 rfl) (.inl ⟨rfl, rfl, rfl, rfl⟩) rfl ⟨rfl, ⟨rfl, by first | (simp [c_4, rSetA]; done) | (simp [c_4, rSetA]; rfl) | (simp_all [rSetA]; done) | (simp_all [rSetA]; rfl)⟩⟩
set_option maxHeartbeats 4000000 in
set_option maxRecDepth 100000 in
theorem k_X1_take (l : Launch) (G : wG) {p q1 q2 : Nat} {fb sb co le sp sw dp : Int32} {lk ld : Nat → Int32} {a : Int32} : Con0 l G yX1_take cX1_take 3 none 4 [.ref p, .int a] [(p, ob 0 (cF q1 q2 fb sb co le sp sw dp)), (q1, aI G 15 lk), (q2, aI G 16 ld)] (fun r w => r = none ∧ w = [(p, ob 0 (rTak q1 q2 lk ld fb sb co le sp sw dp a)), (q1, aI G 15 lk), (q2, aI G 16 ld)]) := by
  refine Con.mk (by decide +kernel) (Nat.le_of_ble_eq_true rfl) (fun P C Rr => ?_)
  refine st_aload_n C (dk DX1_take_0 0 rfl) rfl ?_
  refine st_aload_n C (dk DX1_take_0 1 rfl) rfl ?_
  refine st_get C fl_RX1_24 (dk DX1_take_0 2 rfl) 0 rfl rfl ?_
  refine st_iload_n C (dk DX1_take_0 3 rfl) rfl ?_
  refine st_cV C (k_X1_after l G) mf_X1_after mi_X1_after ml_RX1_94 (dk DX1_take_0 4 rfl) [0, 1, 2] rfl rfl rfl rfl (Nat.le_of_ble_eq_true rfl) rfl rfl ⟨Nat.le_of_ble_eq_true rfl, Nat.le_of_ble_eq_true rfl⟩ ⟨Nat.zero_le _, Nat.zero_le _⟩ (fun r9 w9 hq9 => ?_)
  obtain ⟨rfl, rfl⟩ := hq9
  refine st_istore_n C (dk DX1_take_0 5 rfl) (by decide) rfl ?_
  refine st_iload_n C (dk DX1_take_0 6 rfl) rfl ?_
  refine st_if_ge C (tgt := 15) (dk DX1_take_0 7 rfl) (by decide) (fun c_11 => ?_) (fun c_11 => ?_)
  · refine st_aload_n C (dk DX1_take_0 9 rfl) rfl ?_
    refine st_dup C (dk DX1_take_0 10 rfl) rfl ?_
    refine st_get C fl_RX1_37 (dk DX1_take_0 11 rfl) 0 rfl rfl ?_
    refine st_iconst C (v := 1) (dk DX1_take_0 12 rfl) (by decide) ?_
    refine st_iadd C (dk DX1_take_0 13 rfl) ?_
    refine st_put C fl_RX1_37 fc_0 fw_0_6 (dk DX1_take_0 14 rfl) 0 rfl rfl rfl (Nat.le_of_ble_eq_true rfl) ?_
    refine st_iload_n C (dk DX1_take_0 15 rfl) rfl ?_
    refine st_iconst C (v := 4) (dk DX1_take_0 16 rfl) (by decide) ?_
    refine st_icmp_ne C (tgt := 40) (dk DX1_take_0 17 rfl) (by decide) (fun c_27 => ?_) (fun c_27 => ?_)
    · refine st_aload_n C (dk DX1_take_0 24 rfl) rfl ?_
      refine st_aload_n C (dk DX1_take_0 25 rfl) rfl ?_
      refine st_get C fl_RX1_24 (dk DX1_take_0 26 rfl) 0 rfl rfl ?_
      refine st_cS C (k_X0_cellOf l G) mf_X0_cellOf ms_X0_cellOf ml_RX1_60 (dk DX1_take_0 27 rfl) [] rfl rfl rfl rfl (Nat.le_of_ble_eq_true rfl) ⟨Nat.le_of_ble_eq_true rfl, Nat.le_of_ble_eq_true rfl⟩ ⟨Nat.zero_le _, Nat.zero_le _⟩ (fun r9 w9 hq9 => ?_)
      obtain ⟨rfl, rfl⟩ := hq9
      refine st_iload_n C (dk DX1_take_0 28 rfl) rfl ?_
      refine st_cV C (k_X1_lockOnWay l G) mf_X1_lockOnWay mi_X1_lockOnWay ml_RX1_82 (dk DX1_take_0 29 rfl) [0, 1] rfl rfl rfl rfl (Nat.le_of_ble_eq_true rfl) rfl rfl ⟨Nat.le_of_ble_eq_true rfl, Nat.le_of_ble_eq_true rfl⟩ ⟨Nat.zero_le _, Nat.zero_le _⟩ (fun r9 w9 hq9 => ?_)
      obtain ⟨rfl, rfl⟩ := hq9
      refine st_if_eq C (tgt := 65) (dk DX1_take_0 30 rfl) (by decide) (fun c_52 => ?_) (fun c_52 => ?_)
      · refine st_aload_n C (dk DX1_take_0 37 rfl) rfl ?_
        refine st_iload_n C (dk DX1_take_0 38 rfl) rfl ?_
        refine st_put C fl_RX1_24 fc_0 fw_0_4 (dk DX1_take_0 39 rfl) 0 rfl rfl rfl (Nat.le_of_ble_eq_true rfl) ?_
        exact Rr 0 0 _ _ _ _ _ _ (Nat.zero_le _) (Nat.zero_le _) (dk DX1_take_1 0 rfl) (.inl ⟨rfl, rfl, rfl, rfl⟩) rfl ⟨rfl, ⟨rfl, by first | (simp [c_11, c_27, c_52, rTak, cF]; done) | (simp [c_11, c_27, c_52, rTak, cF]; rfl) | (simp_all [rTak, cF]; done) | (simp_all [rTak, cF]; rfl)⟩⟩
      · refine st_aload_n C (dk DX1_take_0 31 rfl) rfl ?_
        refine st_dup C (dk DX1_take_0 32 rfl) rfl ?_
        refine st_get C fl_RX1_43 (dk DX1_take_0 33 rfl) 0 rfl rfl ?_
        refine st_iconst C (v := 1) (dk DX1_take_0 34 rfl) (by decide) ?_
        refine st_iadd C (dk DX1_take_0 35 rfl) ?_
        refine st_put C fl_RX1_43 fc_0 fw_0_8 (dk DX1_take_0 36 rfl) 0 rfl rfl rfl (Nat.le_of_ble_eq_true rfl) ?_
        refine st_aload_n C (dk DX1_take_0 37 rfl) rfl ?_
        refine st_iload_n C (dk DX1_take_0 38 rfl) rfl ?_
        refine st_put C fl_RX1_24 fc_0 fw_0_4 (dk DX1_take_0 39 rfl) 0 rfl rfl rfl (Nat.le_of_ble_eq_true rfl) ?_
        exact Rr 0 0 _ _ _ _ _ _ (Nat.zero_le _) (Nat.zero_le _) (dk DX1_take_1 0 rfl) (.inl ⟨rfl, rfl, rfl, rfl⟩) rfl ⟨rfl, ⟨rfl, by first | (simp [c_11, c_27, c_52, rTak, cF]; done) | (simp [c_11, c_27, c_52, rTak, cF]; rfl) | (simp_all [rTak, cF]; done) | (simp_all [rTak, cF]; rfl)⟩⟩
    · refine st_aload_n C (dk DX1_take_0 18 rfl) rfl ?_
      refine st_dup C (dk DX1_take_0 19 rfl) rfl ?_
      refine st_get C fl_RX1_40 (dk DX1_take_0 20 rfl) 0 rfl rfl ?_
      refine st_iconst C (v := 1) (dk DX1_take_0 21 rfl) (by decide) ?_
      refine st_iadd C (dk DX1_take_0 22 rfl) ?_
      refine st_put C fl_RX1_40 fc_0 fw_0_7 (dk DX1_take_0 23 rfl) 0 rfl rfl rfl (Nat.le_of_ble_eq_true rfl) ?_
      refine st_aload_n C (dk DX1_take_0 24 rfl) rfl ?_
      refine st_aload_n C (dk DX1_take_0 25 rfl) rfl ?_
      refine st_get C fl_RX1_24 (dk DX1_take_0 26 rfl) 0 rfl rfl ?_
      refine st_cS C (k_X0_cellOf l G) mf_X0_cellOf ms_X0_cellOf ml_RX1_60 (dk DX1_take_0 27 rfl) [] rfl rfl rfl rfl (Nat.le_of_ble_eq_true rfl) ⟨Nat.le_of_ble_eq_true rfl, Nat.le_of_ble_eq_true rfl⟩ ⟨Nat.zero_le _, Nat.zero_le _⟩ (fun r9 w9 hq9 => ?_)
      obtain ⟨rfl, rfl⟩ := hq9
      refine st_iload_n C (dk DX1_take_0 28 rfl) rfl ?_
      refine st_cV C (k_X1_lockOnWay l G) mf_X1_lockOnWay mi_X1_lockOnWay ml_RX1_82 (dk DX1_take_0 29 rfl) [0, 1] rfl rfl rfl rfl (Nat.le_of_ble_eq_true rfl) rfl rfl ⟨Nat.le_of_ble_eq_true rfl, Nat.le_of_ble_eq_true rfl⟩ ⟨Nat.zero_le _, Nat.zero_le _⟩ (fun r9 w9 hq9 => ?_)
      obtain ⟨rfl, rfl⟩ := hq9
      refine st_if_eq C (tgt := 65) (dk DX1_take_0 30 rfl) (by decide) (fun c_52 => ?_) (fun c_52 => ?_)
      · refine st_aload_n C (dk DX1_take_0 37 rfl) rfl ?_
        refine st_iload_n C (dk DX1_take_0 38 rfl) rfl ?_
        refine st_put C fl_RX1_24 fc_0 fw_0_4 (dk DX1_take_0 39 rfl) 0 rfl rfl rfl (Nat.le_of_ble_eq_true rfl) ?_
        exact Rr 0 0 _ _ _ _ _ _ (Nat.zero_le _) (Nat.zero_le _) (dk DX1_take_1 0 rfl) (.inl ⟨rfl, rfl, rfl, rfl⟩) rfl ⟨rfl, ⟨rfl, by first | (simp [c_11, c_27, c_52, rTak, cF]; done) | (simp [c_11, c_27, c_52, rTak, cF]; rfl) | (simp_all [rTak, cF]; done) | (simp_all [rTak, cF]; rfl)⟩⟩
      · refine st_aload_n C (dk DX1_take_0 31 rfl) rfl ?_
        refine st_dup C (dk DX1_take_0 32 rfl) rfl ?_
        refine st_get C fl_RX1_43 (dk DX1_take_0 33 rfl) 0 rfl rfl ?_
        refine st_iconst C (v := 1) (dk DX1_take_0 34 rfl) (by decide) ?_
        refine st_iadd C (dk DX1_take_0 35 rfl) ?_
        refine st_put C fl_RX1_43 fc_0 fw_0_8 (dk DX1_take_0 36 rfl) 0 rfl rfl rfl (Nat.le_of_ble_eq_true rfl) ?_
        refine st_aload_n C (dk DX1_take_0 37 rfl) rfl ?_
        refine st_iload_n C (dk DX1_take_0 38 rfl) rfl ?_
        refine st_put C fl_RX1_24 fc_0 fw_0_4 (dk DX1_take_0 39 rfl) 0 rfl rfl rfl (Nat.le_of_ble_eq_true rfl) ?_
        exact Rr 0 0 _ _ _ _ _ _ (Nat.zero_le _) (Nat.zero_le _) (dk DX1_take_1 0 rfl) (.inl ⟨rfl, rfl, rfl, rfl⟩) rfl ⟨rfl, ⟨rfl, by first | (simp [c_11, c_27, c_52, rTak, cF]; done) | (simp [c_11, c_27, c_52, rTak, cF]; rfl) | (simp_all [rTak, cF]; done) | (simp_all [rTak, cF]; rfl)⟩⟩
  · exact Rr 0 0 _ _ _ _ _ _ (Nat.zero_le _) (Nat.zero_le _) (dk DX1_take_0 8 rfl) (.inl ⟨rfl, rfl, rfl, rfl⟩) rfl ⟨rfl, ⟨rfl, by first | (simp [c_11, rTak, cF]; done) | (simp [c_11, rTak, cF]; rfl) | (simp_all [rTak, cF]; done) | (simp_all [rTak, cF]; rfl)⟩⟩
set_option maxHeartbeats 4000000 in
set_option maxRecDepth 100000 in
theorem k_X1_putKey (l : Launch) (G : wG) {p q1 q2 : Nat} {fb sb co le sp sw dp : Int32} {c v : Int32} : Con0 l G yX1_putKey cX1_putKey 6 none 1 [.ref p, .int c, .int v] [(p, ob 0 (cF q1 q2 fb sb co le sp sw dp))] (fun r w => r = none ∧ w = [(p, ob 0 (rPut q1 q2 fb sb co le sp sw dp c v))]) := by
  refine Con.mk (by decide +kernel) (Nat.le_of_ble_eq_true rfl) (fun P C Rr => ?_)
  refine st_aload_n C (dk DX1_putKey_0 0 rfl) rfl ?_
  refine st_get C fl_RX1_24 (dk DX1_putKey_0 1 rfl) 0 rfl rfl ?_
  refine st_cS C (k_X0_firstOf l G) mf_X0_firstOf ms_X0_firstOf ml_RX1_53 (dk DX1_putKey_0 2 rfl) [] rfl rfl rfl rfl (Nat.le_of_ble_eq_true rfl) ⟨Nat.le_of_ble_eq_true rfl, Nat.le_of_ble_eq_true rfl⟩ ⟨Nat.zero_le _, Nat.zero_le _⟩ (fun r9 w9 hq9 => ?_)
  obtain ⟨rfl, rfl⟩ := hq9
  refine st_istore_n C (dk DX1_putKey_0 3 rfl) (by decide) rfl ?_
  refine st_aload_n C (dk DX1_putKey_0 4 rfl) rfl ?_
  refine st_get C fl_RX1_24 (dk DX1_putKey_0 5 rfl) 0 rfl rfl ?_
  refine st_cS C (k_X0_secondOf l G) mf_X0_secondOf ms_X0_secondOf ml_RX1_57 (dk DX1_putKey_0 6 rfl) [] rfl rfl rfl rfl (Nat.le_of_ble_eq_true rfl) ⟨Nat.le_of_ble_eq_true rfl, Nat.le_of_ble_eq_true rfl⟩ ⟨Nat.zero_le _, Nat.zero_le _⟩ (fun r9 w9 hq9 => ?_)
  obtain ⟨rfl, rfl⟩ := hq9
  refine st_istore C (dk DX1_putKey_0 7 rfl) (by decide) rfl ?_
  refine st_iload_n C (dk DX1_putKey_0 8 rfl) rfl ?_
  refine st_if_ne C (tgt := 26) (dk DX1_putKey_0 9 rfl) (by decide) (fun c_18 => ?_) (fun c_18 => ?_)
  · refine st_iload_n C (dk DX1_putKey_0 12 rfl) rfl ?_
    refine st_istore C (dk DX1_putKey_0 13 rfl) (by decide) rfl ?_
    refine st_iload_n C (dk DX1_putKey_0 14 rfl) rfl ?_
    refine st_iload_n C (dk DX1_putKey_0 15 rfl) rfl ?_
    refine st_icmp_eq C (tgt := 46) (dk DX1_putKey_0 16 rfl) (by decide) (fun c_31 => ?_) (fun c_31 => ?_)
    · refine st_aload_n C (dk DX1_putKey_0 23 rfl) rfl ?_
      refine st_iload_n C (dk DX1_putKey_0 24 rfl) rfl ?_
      refine st_put C fl_RX1_31 fc_0 fw_0_2 (dk DX1_putKey_0 25 rfl) 0 rfl rfl rfl (Nat.le_of_ble_eq_true rfl) ?_
      refine st_iload C (dk DX1_putKey_0 26 rfl) rfl ?_
      refine st_istore_n C (dk DX1_putKey_0 27 rfl) (by decide) rfl ?_
      refine st_goto C (tgt := 79) (dk DX1_putKey_0 28 rfl) (by decide) ?_
      refine st_aload_n C (dk DX1_putKey_1 0 rfl) rfl ?_
      refine st_aload_n C (dk DX1_putKey_1 1 rfl) rfl ?_
      refine st_get C fl_RX1_24 (dk DX1_putKey_1 2 rfl) 0 rfl rfl ?_
      refine st_cS C (k_X0_cellOf l G) mf_X0_cellOf ms_X0_cellOf ml_RX1_60 (dk DX1_putKey_1 3 rfl) [] rfl rfl rfl rfl (Nat.le_of_ble_eq_true rfl) ⟨Nat.le_of_ble_eq_true rfl, Nat.le_of_ble_eq_true rfl⟩ ⟨Nat.zero_le _, Nat.zero_le _⟩ (fun r9 w9 hq9 => ?_)
      obtain ⟨rfl, rfl⟩ := hq9
      refine st_iload_n C (dk DX1_putKey_1 4 rfl) rfl ?_
      refine st_iload C (dk DX1_putKey_1 5 rfl) rfl ?_
      refine st_cS C (k_X0_of l G) mf_X0_of ms_X0_of ml_RX1_20 (dk DX1_putKey_1 6 rfl) [] rfl rfl rfl rfl (Nat.le_of_ble_eq_true rfl) ⟨Nat.le_of_ble_eq_true rfl, Nat.le_of_ble_eq_true rfl⟩ ⟨Nat.zero_le _, Nat.zero_le _⟩ (fun r9 w9 hq9 => ?_)
      obtain ⟨rfl, rfl⟩ := hq9
      refine st_put C fl_RX1_24 fc_0 fw_0_4 (dk DX1_putKey_1 7 rfl) 0 rfl rfl rfl (Nat.le_of_ble_eq_true rfl) ?_
      exact Rr 0 0 _ _ _ _ _ _ (Nat.zero_le _) (Nat.zero_le _) (dk DX1_putKey_1 8 rfl) (.inl ⟨rfl, rfl, rfl, rfl⟩) rfl ⟨rfl, ⟨rfl, by first | (simp [c_18, c_31, rPut, rPutP, rPut1, rPut2, cF]; done) | (simp [c_18, c_31, rPut, rPutP, rPut1, rPut2, cF]; rfl) | (simp_all [rPut, rPutP, rPut1, rPut2, cF]; done) | (simp_all [rPut, rPutP, rPut1, rPut2, cF]; rfl)⟩⟩
    · refine st_iload C (dk DX1_putKey_0 17 rfl) rfl ?_
      refine st_iload_n C (dk DX1_putKey_0 18 rfl) rfl ?_
      refine st_icmp_eq C (tgt := 57) (dk DX1_putKey_0 19 rfl) (by decide) (fun c_37 => ?_) (fun c_37 => ?_)
      · refine st_iload C (dk DX1_putKey_0 29 rfl) rfl ?_
        refine st_iload_n C (dk DX1_putKey_0 30 rfl) rfl ?_
        refine st_icmp_eq C (tgt := 70) (dk DX1_putKey_0 31 rfl) (by decide) (fun c_60 => ?_) (fun c_60 => ?_)
        · refine st_aload_n C (dk DX1_putKey_0 35 rfl) rfl ?_
          refine st_iload_n C (dk DX1_putKey_0 36 rfl) rfl ?_
          refine st_put C fl_RX1_34 fc_0 fw_0_3 (dk DX1_putKey_0 37 rfl) 0 rfl rfl rfl (Nat.le_of_ble_eq_true rfl) ?_
          refine st_iload C (dk DX1_putKey_0 38 rfl) rfl ?_
          refine st_istore C (dk DX1_putKey_0 39 rfl) (by decide) rfl ?_
          refine st_aload_n C (dk DX1_putKey_1 0 rfl) rfl ?_
          refine st_aload_n C (dk DX1_putKey_1 1 rfl) rfl ?_
          refine st_get C fl_RX1_24 (dk DX1_putKey_1 2 rfl) 0 rfl rfl ?_
          refine st_cS C (k_X0_cellOf l G) mf_X0_cellOf ms_X0_cellOf ml_RX1_60 (dk DX1_putKey_1 3 rfl) [] rfl rfl rfl rfl (Nat.le_of_ble_eq_true rfl) ⟨Nat.le_of_ble_eq_true rfl, Nat.le_of_ble_eq_true rfl⟩ ⟨Nat.zero_le _, Nat.zero_le _⟩ (fun r9 w9 hq9 => ?_)
          obtain ⟨rfl, rfl⟩ := hq9
          refine st_iload_n C (dk DX1_putKey_1 4 rfl) rfl ?_
          refine st_iload C (dk DX1_putKey_1 5 rfl) rfl ?_
          refine st_cS C (k_X0_of l G) mf_X0_of ms_X0_of ml_RX1_20 (dk DX1_putKey_1 6 rfl) [] rfl rfl rfl rfl (Nat.le_of_ble_eq_true rfl) ⟨Nat.le_of_ble_eq_true rfl, Nat.le_of_ble_eq_true rfl⟩ ⟨Nat.zero_le _, Nat.zero_le _⟩ (fun r9 w9 hq9 => ?_)
          obtain ⟨rfl, rfl⟩ := hq9
          refine st_put C fl_RX1_24 fc_0 fw_0_4 (dk DX1_putKey_1 7 rfl) 0 rfl rfl rfl (Nat.le_of_ble_eq_true rfl) ?_
          exact Rr 0 0 _ _ _ _ _ _ (Nat.zero_le _) (Nat.zero_le _) (dk DX1_putKey_1 8 rfl) (.inl ⟨rfl, rfl, rfl, rfl⟩) rfl ⟨rfl, ⟨rfl, by first | (simp [c_18, c_31, c_37, c_60, rPut, rPutP, rPut1, rPut2, cF]; done) | (simp [c_18, c_31, c_37, c_60, rPut, rPutP, rPut1, rPut2, cF]; rfl) | (simp_all [rPut, rPutP, rPut1, rPut2, cF]; done) | (simp_all [rPut, rPutP, rPut1, rPut2, cF]; rfl)⟩⟩
        · refine st_iload C (dk DX1_putKey_0 32 rfl) rfl ?_
          refine st_bipush C (v := 17) (dk DX1_putKey_0 33 rfl) (by decide) ?_
          refine st_icmp_ne C (tgt := 79) (dk DX1_putKey_0 34 rfl) (by decide) (fun c_67 => ?_) (fun c_67 => ?_)
          · refine st_aload_n C (dk DX1_putKey_1 0 rfl) rfl ?_
            refine st_aload_n C (dk DX1_putKey_1 1 rfl) rfl ?_
            refine st_get C fl_RX1_24 (dk DX1_putKey_1 2 rfl) 0 rfl rfl ?_
            refine st_cS C (k_X0_cellOf l G) mf_X0_cellOf ms_X0_cellOf ml_RX1_60 (dk DX1_putKey_1 3 rfl) [] rfl rfl rfl rfl (Nat.le_of_ble_eq_true rfl) ⟨Nat.le_of_ble_eq_true rfl, Nat.le_of_ble_eq_true rfl⟩ ⟨Nat.zero_le _, Nat.zero_le _⟩ (fun r9 w9 hq9 => ?_)
            obtain ⟨rfl, rfl⟩ := hq9
            refine st_iload_n C (dk DX1_putKey_1 4 rfl) rfl ?_
            refine st_iload C (dk DX1_putKey_1 5 rfl) rfl ?_
            refine st_cS C (k_X0_of l G) mf_X0_of ms_X0_of ml_RX1_20 (dk DX1_putKey_1 6 rfl) [] rfl rfl rfl rfl (Nat.le_of_ble_eq_true rfl) ⟨Nat.le_of_ble_eq_true rfl, Nat.le_of_ble_eq_true rfl⟩ ⟨Nat.zero_le _, Nat.zero_le _⟩ (fun r9 w9 hq9 => ?_)
            obtain ⟨rfl, rfl⟩ := hq9
            refine st_put C fl_RX1_24 fc_0 fw_0_4 (dk DX1_putKey_1 7 rfl) 0 rfl rfl rfl (Nat.le_of_ble_eq_true rfl) ?_
            exact Rr 0 0 _ _ _ _ _ _ (Nat.zero_le _) (Nat.zero_le _) (dk DX1_putKey_1 8 rfl) (.inl ⟨rfl, rfl, rfl, rfl⟩) rfl ⟨rfl, ⟨rfl, by first | (simp [c_18, c_31, c_37, c_60, c_67, rPut, rPutP, rPut1, rPut2, cF]; done) | (simp [c_18, c_31, c_37, c_60, c_67, rPut, rPutP, rPut1, rPut2, cF]; rfl) | (simp_all [rPut, rPutP, rPut1, rPut2, cF]; done) | (simp_all [rPut, rPutP, rPut1, rPut2, cF]; rfl)⟩⟩
          · refine st_aload_n C (dk DX1_putKey_0 35 rfl) rfl ?_
            refine st_iload_n C (dk DX1_putKey_0 36 rfl) rfl ?_
            refine st_put C fl_RX1_34 fc_0 fw_0_3 (dk DX1_putKey_0 37 rfl) 0 rfl rfl rfl (Nat.le_of_ble_eq_true rfl) ?_
            refine st_iload C (dk DX1_putKey_0 38 rfl) rfl ?_
            refine st_istore C (dk DX1_putKey_0 39 rfl) (by decide) rfl ?_
            refine st_aload_n C (dk DX1_putKey_1 0 rfl) rfl ?_
            refine st_aload_n C (dk DX1_putKey_1 1 rfl) rfl ?_
            refine st_get C fl_RX1_24 (dk DX1_putKey_1 2 rfl) 0 rfl rfl ?_
            refine st_cS C (k_X0_cellOf l G) mf_X0_cellOf ms_X0_cellOf ml_RX1_60 (dk DX1_putKey_1 3 rfl) [] rfl rfl rfl rfl (Nat.le_of_ble_eq_true rfl) ⟨Nat.le_of_ble_eq_true rfl, Nat.le_of_ble_eq_true rfl⟩ ⟨Nat.zero_le _, Nat.zero_le _⟩ (fun r9 w9 hq9 => ?_)
            obtain ⟨rfl, rfl⟩ := hq9
            refine st_iload_n C (dk DX1_putKey_1 4 rfl) rfl ?_
            refine st_iload C (dk DX1_putKey_1 5 rfl) rfl ?_
            refine st_cS C (k_X0_of l G) mf_X0_of ms_X0_of ml_RX1_20 (dk DX1_putKey_1 6 rfl) [] rfl rfl rfl rfl (Nat.le_of_ble_eq_true rfl) ⟨Nat.le_of_ble_eq_true rfl, Nat.le_of_ble_eq_true rfl⟩ ⟨Nat.zero_le _, Nat.zero_le _⟩ (fun r9 w9 hq9 => ?_)
            obtain ⟨rfl, rfl⟩ := hq9
            refine st_put C fl_RX1_24 fc_0 fw_0_4 (dk DX1_putKey_1 7 rfl) 0 rfl rfl rfl (Nat.le_of_ble_eq_true rfl) ?_
            exact Rr 0 0 _ _ _ _ _ _ (Nat.zero_le _) (Nat.zero_le _) (dk DX1_putKey_1 8 rfl) (.inl ⟨rfl, rfl, rfl, rfl⟩) rfl ⟨rfl, ⟨rfl, by first | (simp [c_18, c_31, c_37, c_60, c_67, rPut, rPutP, rPut1, rPut2, cF]; done) | (simp [c_18, c_31, c_37, c_60, c_67, rPut, rPutP, rPut1, rPut2, cF]; rfl) | (simp_all [rPut, rPutP, rPut1, rPut2, cF]; done) | (simp_all [rPut, rPutP, rPut1, rPut2, cF]; rfl)⟩⟩
      · refine st_iload_n C (dk DX1_putKey_0 20 rfl) rfl ?_
        refine st_bipush C (v := 17) (dk DX1_putKey_0 21 rfl) (by decide) ?_
        refine st_icmp_ne C (tgt := 57) (dk DX1_putKey_0 22 rfl) (by decide) (fun c_43 => ?_) (fun c_43 => ?_)
        · refine st_iload C (dk DX1_putKey_0 29 rfl) rfl ?_
          refine st_iload_n C (dk DX1_putKey_0 30 rfl) rfl ?_
          refine st_icmp_eq C (tgt := 70) (dk DX1_putKey_0 31 rfl) (by decide) (fun c_60 => ?_) (fun c_60 => ?_)
          · refine st_aload_n C (dk DX1_putKey_0 35 rfl) rfl ?_
            refine st_iload_n C (dk DX1_putKey_0 36 rfl) rfl ?_
            refine st_put C fl_RX1_34 fc_0 fw_0_3 (dk DX1_putKey_0 37 rfl) 0 rfl rfl rfl (Nat.le_of_ble_eq_true rfl) ?_
            refine st_iload C (dk DX1_putKey_0 38 rfl) rfl ?_
            refine st_istore C (dk DX1_putKey_0 39 rfl) (by decide) rfl ?_
            refine st_aload_n C (dk DX1_putKey_1 0 rfl) rfl ?_
            refine st_aload_n C (dk DX1_putKey_1 1 rfl) rfl ?_
            refine st_get C fl_RX1_24 (dk DX1_putKey_1 2 rfl) 0 rfl rfl ?_
            refine st_cS C (k_X0_cellOf l G) mf_X0_cellOf ms_X0_cellOf ml_RX1_60 (dk DX1_putKey_1 3 rfl) [] rfl rfl rfl rfl (Nat.le_of_ble_eq_true rfl) ⟨Nat.le_of_ble_eq_true rfl, Nat.le_of_ble_eq_true rfl⟩ ⟨Nat.zero_le _, Nat.zero_le _⟩ (fun r9 w9 hq9 => ?_)
            obtain ⟨rfl, rfl⟩ := hq9
            refine st_iload_n C (dk DX1_putKey_1 4 rfl) rfl ?_
            refine st_iload C (dk DX1_putKey_1 5 rfl) rfl ?_
            refine st_cS C (k_X0_of l G) mf_X0_of ms_X0_of ml_RX1_20 (dk DX1_putKey_1 6 rfl) [] rfl rfl rfl rfl (Nat.le_of_ble_eq_true rfl) ⟨Nat.le_of_ble_eq_true rfl, Nat.le_of_ble_eq_true rfl⟩ ⟨Nat.zero_le _, Nat.zero_le _⟩ (fun r9 w9 hq9 => ?_)
            obtain ⟨rfl, rfl⟩ := hq9
            refine st_put C fl_RX1_24 fc_0 fw_0_4 (dk DX1_putKey_1 7 rfl) 0 rfl rfl rfl (Nat.le_of_ble_eq_true rfl) ?_
            exact Rr 0 0 _ _ _ _ _ _ (Nat.zero_le _) (Nat.zero_le _) (dk DX1_putKey_1 8 rfl) (.inl ⟨rfl, rfl, rfl, rfl⟩) rfl ⟨rfl, ⟨rfl, by first | (simp [c_18, c_31, c_37, c_43, c_60, rPut, rPutP, rPut1, rPut2, cF]; done) | (simp [c_18, c_31, c_37, c_43, c_60, rPut, rPutP, rPut1, rPut2, cF]; rfl) | (simp_all [rPut, rPutP, rPut1, rPut2, cF]; done) | (simp_all [rPut, rPutP, rPut1, rPut2, cF]; rfl)⟩⟩
          · refine st_iload C (dk DX1_putKey_0 32 rfl) rfl ?_
            refine st_bipush C (v := 17) (dk DX1_putKey_0 33 rfl) (by decide) ?_
            refine st_icmp_ne C (tgt := 79) (dk DX1_putKey_0 34 rfl) (by decide) (fun c_67 => ?_) (fun c_67 => ?_)
            · refine st_aload_n C (dk DX1_putKey_1 0 rfl) rfl ?_
              refine st_aload_n C (dk DX1_putKey_1 1 rfl) rfl ?_
              refine st_get C fl_RX1_24 (dk DX1_putKey_1 2 rfl) 0 rfl rfl ?_
              refine st_cS C (k_X0_cellOf l G) mf_X0_cellOf ms_X0_cellOf ml_RX1_60 (dk DX1_putKey_1 3 rfl) [] rfl rfl rfl rfl (Nat.le_of_ble_eq_true rfl) ⟨Nat.le_of_ble_eq_true rfl, Nat.le_of_ble_eq_true rfl⟩ ⟨Nat.zero_le _, Nat.zero_le _⟩ (fun r9 w9 hq9 => ?_)
              obtain ⟨rfl, rfl⟩ := hq9
              refine st_iload_n C (dk DX1_putKey_1 4 rfl) rfl ?_
              refine st_iload C (dk DX1_putKey_1 5 rfl) rfl ?_
              refine st_cS C (k_X0_of l G) mf_X0_of ms_X0_of ml_RX1_20 (dk DX1_putKey_1 6 rfl) [] rfl rfl rfl rfl (Nat.le_of_ble_eq_true rfl) ⟨Nat.le_of_ble_eq_true rfl, Nat.le_of_ble_eq_true rfl⟩ ⟨Nat.zero_le _, Nat.zero_le _⟩ (fun r9 w9 hq9 => ?_)
              obtain ⟨rfl, rfl⟩ := hq9
              refine st_put C fl_RX1_24 fc_0 fw_0_4 (dk DX1_putKey_1 7 rfl) 0 rfl rfl rfl (Nat.le_of_ble_eq_true rfl) ?_
              exact Rr 0 0 _ _ _ _ _ _ (Nat.zero_le _) (Nat.zero_le _) (dk DX1_putKey_1 8 rfl) (.inl ⟨rfl, rfl, rfl, rfl⟩) rfl ⟨rfl, ⟨rfl, by first | (simp [c_18, c_31, c_37, c_43, c_60, c_67, rPut, rPutP, rPut1, rPut2, cF]; done) | (simp [c_18, c_31, c_37, c_43, c_60, c_67, rPut, rPutP, rPut1, rPut2, cF]; rfl) | (simp_all [rPut, rPutP, rPut1, rPut2, cF]; done) | (simp_all [rPut, rPutP, rPut1, rPut2, cF]; rfl)⟩⟩
            · refine st_aload_n C (dk DX1_putKey_0 35 rfl) rfl ?_
              refine st_iload_n C (dk DX1_putKey_0 36 rfl) rfl ?_
              refine st_put C fl_RX1_34 fc_0 fw_0_3 (dk DX1_putKey_0 37 rfl) 0 rfl rfl rfl (Nat.le_of_ble_eq_true rfl) ?_
              refine st_iload C (dk DX1_putKey_0 38 rfl) rfl ?_
              refine st_istore C (dk DX1_putKey_0 39 rfl) (by decide) rfl ?_
              refine st_aload_n C (dk DX1_putKey_1 0 rfl) rfl ?_
              refine st_aload_n C (dk DX1_putKey_1 1 rfl) rfl ?_
              refine st_get C fl_RX1_24 (dk DX1_putKey_1 2 rfl) 0 rfl rfl ?_
              refine st_cS C (k_X0_cellOf l G) mf_X0_cellOf ms_X0_cellOf ml_RX1_60 (dk DX1_putKey_1 3 rfl) [] rfl rfl rfl rfl (Nat.le_of_ble_eq_true rfl) ⟨Nat.le_of_ble_eq_true rfl, Nat.le_of_ble_eq_true rfl⟩ ⟨Nat.zero_le _, Nat.zero_le _⟩ (fun r9 w9 hq9 => ?_)
              obtain ⟨rfl, rfl⟩ := hq9
              refine st_iload_n C (dk DX1_putKey_1 4 rfl) rfl ?_
              refine st_iload C (dk DX1_putKey_1 5 rfl) rfl ?_
              refine st_cS C (k_X0_of l G) mf_X0_of ms_X0_of ml_RX1_20 (dk DX1_putKey_1 6 rfl) [] rfl rfl rfl rfl (Nat.le_of_ble_eq_true rfl) ⟨Nat.le_of_ble_eq_true rfl, Nat.le_of_ble_eq_true rfl⟩ ⟨Nat.zero_le _, Nat.zero_le _⟩ (fun r9 w9 hq9 => ?_)
              obtain ⟨rfl, rfl⟩ := hq9
              refine st_put C fl_RX1_24 fc_0 fw_0_4 (dk DX1_putKey_1 7 rfl) 0 rfl rfl rfl (Nat.le_of_ble_eq_true rfl) ?_
              exact Rr 0 0 _ _ _ _ _ _ (Nat.zero_le _) (Nat.zero_le _) (dk DX1_putKey_1 8 rfl) (.inl ⟨rfl, rfl, rfl, rfl⟩) rfl ⟨rfl, ⟨rfl, by first | (simp [c_18, c_31, c_37, c_43, c_60, c_67, rPut, rPutP, rPut1, rPut2, cF]; done) | (simp [c_18, c_31, c_37, c_43, c_60, c_67, rPut, rPutP, rPut1, rPut2, cF]; rfl) | (simp_all [rPut, rPutP, rPut1, rPut2, cF]; done) | (simp_all [rPut, rPutP, rPut1, rPut2, cF]; rfl)⟩⟩
        · refine st_aload_n C (dk DX1_putKey_0 23 rfl) rfl ?_
          refine st_iload_n C (dk DX1_putKey_0 24 rfl) rfl ?_
          refine st_put C fl_RX1_31 fc_0 fw_0_2 (dk DX1_putKey_0 25 rfl) 0 rfl rfl rfl (Nat.le_of_ble_eq_true rfl) ?_
          refine st_iload C (dk DX1_putKey_0 26 rfl) rfl ?_
          refine st_istore_n C (dk DX1_putKey_0 27 rfl) (by decide) rfl ?_
          refine st_goto C (tgt := 79) (dk DX1_putKey_0 28 rfl) (by decide) ?_
          refine st_aload_n C (dk DX1_putKey_1 0 rfl) rfl ?_
          refine st_aload_n C (dk DX1_putKey_1 1 rfl) rfl ?_
          refine st_get C fl_RX1_24 (dk DX1_putKey_1 2 rfl) 0 rfl rfl ?_
          refine st_cS C (k_X0_cellOf l G) mf_X0_cellOf ms_X0_cellOf ml_RX1_60 (dk DX1_putKey_1 3 rfl) [] rfl rfl rfl rfl (Nat.le_of_ble_eq_true rfl) ⟨Nat.le_of_ble_eq_true rfl, Nat.le_of_ble_eq_true rfl⟩ ⟨Nat.zero_le _, Nat.zero_le _⟩ (fun r9 w9 hq9 => ?_)
          obtain ⟨rfl, rfl⟩ := hq9
          refine st_iload_n C (dk DX1_putKey_1 4 rfl) rfl ?_
          refine st_iload C (dk DX1_putKey_1 5 rfl) rfl ?_
          refine st_cS C (k_X0_of l G) mf_X0_of ms_X0_of ml_RX1_20 (dk DX1_putKey_1 6 rfl) [] rfl rfl rfl rfl (Nat.le_of_ble_eq_true rfl) ⟨Nat.le_of_ble_eq_true rfl, Nat.le_of_ble_eq_true rfl⟩ ⟨Nat.zero_le _, Nat.zero_le _⟩ (fun r9 w9 hq9 => ?_)
          obtain ⟨rfl, rfl⟩ := hq9
          refine st_put C fl_RX1_24 fc_0 fw_0_4 (dk DX1_putKey_1 7 rfl) 0 rfl rfl rfl (Nat.le_of_ble_eq_true rfl) ?_
          exact Rr 0 0 _ _ _ _ _ _ (Nat.zero_le _) (Nat.zero_le _) (dk DX1_putKey_1 8 rfl) (.inl ⟨rfl, rfl, rfl, rfl⟩) rfl ⟨rfl, ⟨rfl, by first | (simp [c_18, c_31, c_37, c_43, rPut, rPutP, rPut1, rPut2, cF]; done) | (simp [c_18, c_31, c_37, c_43, rPut, rPutP, rPut1, rPut2, cF]; rfl) | (simp_all [rPut, rPutP, rPut1, rPut2, cF]; done) | (simp_all [rPut, rPutP, rPut1, rPut2, cF]; rfl)⟩⟩
  · refine st_bipush C (v := 17) (dk DX1_putKey_0 10 rfl) (by decide) ?_
    refine st_goto C (tgt := 27) (dk DX1_putKey_0 11 rfl) (by decide) ?_
    refine st_istore C (dk DX1_putKey_0 13 rfl) (by decide) rfl ?_
    refine st_iload_n C (dk DX1_putKey_0 14 rfl) rfl ?_
    refine st_iload_n C (dk DX1_putKey_0 15 rfl) rfl ?_
    refine st_icmp_eq C (tgt := 46) (dk DX1_putKey_0 16 rfl) (by decide) (fun c_31 => ?_) (fun c_31 => ?_)
    · refine st_aload_n C (dk DX1_putKey_0 23 rfl) rfl ?_
      refine st_iload_n C (dk DX1_putKey_0 24 rfl) rfl ?_
      refine st_put C fl_RX1_31 fc_0 fw_0_2 (dk DX1_putKey_0 25 rfl) 0 rfl rfl rfl (Nat.le_of_ble_eq_true rfl) ?_
      refine st_iload C (dk DX1_putKey_0 26 rfl) rfl ?_
      refine st_istore_n C (dk DX1_putKey_0 27 rfl) (by decide) rfl ?_
      refine st_goto C (tgt := 79) (dk DX1_putKey_0 28 rfl) (by decide) ?_
      refine st_aload_n C (dk DX1_putKey_1 0 rfl) rfl ?_
      refine st_aload_n C (dk DX1_putKey_1 1 rfl) rfl ?_
      refine st_get C fl_RX1_24 (dk DX1_putKey_1 2 rfl) 0 rfl rfl ?_
      refine st_cS C (k_X0_cellOf l G) mf_X0_cellOf ms_X0_cellOf ml_RX1_60 (dk DX1_putKey_1 3 rfl) [] rfl rfl rfl rfl (Nat.le_of_ble_eq_true rfl) ⟨Nat.le_of_ble_eq_true rfl, Nat.le_of_ble_eq_true rfl⟩ ⟨Nat.zero_le _, Nat.zero_le _⟩ (fun r9 w9 hq9 => ?_)
      obtain ⟨rfl, rfl⟩ := hq9
      refine st_iload_n C (dk DX1_putKey_1 4 rfl) rfl ?_
      refine st_iload C (dk DX1_putKey_1 5 rfl) rfl ?_
      refine st_cS C (k_X0_of l G) mf_X0_of ms_X0_of ml_RX1_20 (dk DX1_putKey_1 6 rfl) [] rfl rfl rfl rfl (Nat.le_of_ble_eq_true rfl) ⟨Nat.le_of_ble_eq_true rfl, Nat.le_of_ble_eq_true rfl⟩ ⟨Nat.zero_le _, Nat.zero_le _⟩ (fun r9 w9 hq9 => ?_)
      obtain ⟨rfl, rfl⟩ := hq9
      refine st_put C fl_RX1_24 fc_0 fw_0_4 (dk DX1_putKey_1 7 rfl) 0 rfl rfl rfl (Nat.le_of_ble_eq_true rfl) ?_
      exact Rr 0 0 _ _ _ _ _ _ (Nat.zero_le _) (Nat.zero_le _) (dk DX1_putKey_1 8 rfl) (.inl ⟨rfl, rfl, rfl, rfl⟩) rfl ⟨rfl, ⟨rfl, by first | (simp [c_18, c_31, rPut, rPutP, rPut1, rPut2, cF]; done) | (simp [c_18, c_31, rPut, rPutP, rPut1, rPut2, cF]; rfl) | (simp_all [rPut, rPutP, rPut1, rPut2, cF]; done) | (simp_all [rPut, rPutP, rPut1, rPut2, cF]; rfl)⟩⟩
    · refine st_iload C (dk DX1_putKey_0 17 rfl) rfl ?_
      refine st_iload_n C (dk DX1_putKey_0 18 rfl) rfl ?_
      refine st_icmp_eq C (tgt := 57) (dk DX1_putKey_0 19 rfl) (by decide) (fun c_37 => ?_) (fun c_37 => ?_)
      · refine st_iload C (dk DX1_putKey_0 29 rfl) rfl ?_
        refine st_iload_n C (dk DX1_putKey_0 30 rfl) rfl ?_
        refine st_icmp_eq C (tgt := 70) (dk DX1_putKey_0 31 rfl) (by decide) (fun c_60 => ?_) (fun c_60 => ?_)
        · refine st_aload_n C (dk DX1_putKey_0 35 rfl) rfl ?_
          refine st_iload_n C (dk DX1_putKey_0 36 rfl) rfl ?_
          refine st_put C fl_RX1_34 fc_0 fw_0_3 (dk DX1_putKey_0 37 rfl) 0 rfl rfl rfl (Nat.le_of_ble_eq_true rfl) ?_
          refine st_iload C (dk DX1_putKey_0 38 rfl) rfl ?_
          refine st_istore C (dk DX1_putKey_0 39 rfl) (by decide) rfl ?_
          refine st_aload_n C (dk DX1_putKey_1 0 rfl) rfl ?_
          refine st_aload_n C (dk DX1_putKey_1 1 rfl) rfl ?_
          refine st_get C fl_RX1_24 (dk DX1_putKey_1 2 rfl) 0 rfl rfl ?_
          refine st_cS C (k_X0_cellOf l G) mf_X0_cellOf ms_X0_cellOf ml_RX1_60 (dk DX1_putKey_1 3 rfl) [] rfl rfl rfl rfl (Nat.le_of_ble_eq_true rfl) ⟨Nat.le_of_ble_eq_true rfl, Nat.le_of_ble_eq_true rfl⟩ ⟨Nat.zero_le _, Nat.zero_le _⟩ (fun r9 w9 hq9 => ?_)
          obtain ⟨rfl, rfl⟩ := hq9
          refine st_iload_n C (dk DX1_putKey_1 4 rfl) rfl ?_
          refine st_iload C (dk DX1_putKey_1 5 rfl) rfl ?_
          refine st_cS C (k_X0_of l G) mf_X0_of ms_X0_of ml_RX1_20 (dk DX1_putKey_1 6 rfl) [] rfl rfl rfl rfl (Nat.le_of_ble_eq_true rfl) ⟨Nat.le_of_ble_eq_true rfl, Nat.le_of_ble_eq_true rfl⟩ ⟨Nat.zero_le _, Nat.zero_le _⟩ (fun r9 w9 hq9 => ?_)
          obtain ⟨rfl, rfl⟩ := hq9
          refine st_put C fl_RX1_24 fc_0 fw_0_4 (dk DX1_putKey_1 7 rfl) 0 rfl rfl rfl (Nat.le_of_ble_eq_true rfl) ?_
          exact Rr 0 0 _ _ _ _ _ _ (Nat.zero_le _) (Nat.zero_le _) (dk DX1_putKey_1 8 rfl) (.inl ⟨rfl, rfl, rfl, rfl⟩) rfl ⟨rfl, ⟨rfl, by first | (simp [c_18, c_31, c_37, c_60, rPut, rPutP, rPut1, rPut2, cF]; done) | (simp [c_18, c_31, c_37, c_60, rPut, rPutP, rPut1, rPut2, cF]; rfl) | (simp_all [rPut, rPutP, rPut1, rPut2, cF]; done) | (simp_all [rPut, rPutP, rPut1, rPut2, cF]; rfl)⟩⟩
        · refine st_iload C (dk DX1_putKey_0 32 rfl) rfl ?_
          refine st_bipush C (v := 17) (dk DX1_putKey_0 33 rfl) (by decide) ?_
          refine st_icmp_ne C (tgt := 79) (dk DX1_putKey_0 34 rfl) (by decide) (fun c_67 => ?_) (fun c_67 => ?_)
          · refine st_aload_n C (dk DX1_putKey_1 0 rfl) rfl ?_
            refine st_aload_n C (dk DX1_putKey_1 1 rfl) rfl ?_
            refine st_get C fl_RX1_24 (dk DX1_putKey_1 2 rfl) 0 rfl rfl ?_
            refine st_cS C (k_X0_cellOf l G) mf_X0_cellOf ms_X0_cellOf ml_RX1_60 (dk DX1_putKey_1 3 rfl) [] rfl rfl rfl rfl (Nat.le_of_ble_eq_true rfl) ⟨Nat.le_of_ble_eq_true rfl, Nat.le_of_ble_eq_true rfl⟩ ⟨Nat.zero_le _, Nat.zero_le _⟩ (fun r9 w9 hq9 => ?_)
            obtain ⟨rfl, rfl⟩ := hq9
            refine st_iload_n C (dk DX1_putKey_1 4 rfl) rfl ?_
            refine st_iload C (dk DX1_putKey_1 5 rfl) rfl ?_
            refine st_cS C (k_X0_of l G) mf_X0_of ms_X0_of ml_RX1_20 (dk DX1_putKey_1 6 rfl) [] rfl rfl rfl rfl (Nat.le_of_ble_eq_true rfl) ⟨Nat.le_of_ble_eq_true rfl, Nat.le_of_ble_eq_true rfl⟩ ⟨Nat.zero_le _, Nat.zero_le _⟩ (fun r9 w9 hq9 => ?_)
            obtain ⟨rfl, rfl⟩ := hq9
            refine st_put C fl_RX1_24 fc_0 fw_0_4 (dk DX1_putKey_1 7 rfl) 0 rfl rfl rfl (Nat.le_of_ble_eq_true rfl) ?_
            exact Rr 0 0 _ _ _ _ _ _ (Nat.zero_le _) (Nat.zero_le _) (dk DX1_putKey_1 8 rfl) (.inl ⟨rfl, rfl, rfl, rfl⟩) rfl ⟨rfl, ⟨rfl, by first | (simp [c_18, c_31, c_37, c_60, c_67, rPut, rPutP, rPut1, rPut2, cF]; done) | (simp [c_18, c_31, c_37, c_60, c_67, rPut, rPutP, rPut1, rPut2, cF]; rfl) | (simp_all [rPut, rPutP, rPut1, rPut2, cF]; done) | (simp_all [rPut, rPutP, rPut1, rPut2, cF]; rfl)⟩⟩
          · refine st_aload_n C (dk DX1_putKey_0 35 rfl) rfl ?_
            refine st_iload_n C (dk DX1_putKey_0 36 rfl) rfl ?_
            refine st_put C fl_RX1_34 fc_0 fw_0_3 (dk DX1_putKey_0 37 rfl) 0 rfl rfl rfl (Nat.le_of_ble_eq_true rfl) ?_
            refine st_iload C (dk DX1_putKey_0 38 rfl) rfl ?_
            refine st_istore C (dk DX1_putKey_0 39 rfl) (by decide) rfl ?_
            refine st_aload_n C (dk DX1_putKey_1 0 rfl) rfl ?_
            refine st_aload_n C (dk DX1_putKey_1 1 rfl) rfl ?_
            refine st_get C fl_RX1_24 (dk DX1_putKey_1 2 rfl) 0 rfl rfl ?_
            refine st_cS C (k_X0_cellOf l G) mf_X0_cellOf ms_X0_cellOf ml_RX1_60 (dk DX1_putKey_1 3 rfl) [] rfl rfl rfl rfl (Nat.le_of_ble_eq_true rfl) ⟨Nat.le_of_ble_eq_true rfl, Nat.le_of_ble_eq_true rfl⟩ ⟨Nat.zero_le _, Nat.zero_le _⟩ (fun r9 w9 hq9 => ?_)
            obtain ⟨rfl, rfl⟩ := hq9
            refine st_iload_n C (dk DX1_putKey_1 4 rfl) rfl ?_
            refine st_iload C (dk DX1_putKey_1 5 rfl) rfl ?_
            refine st_cS C (k_X0_of l G) mf_X0_of ms_X0_of ml_RX1_20 (dk DX1_putKey_1 6 rfl) [] rfl rfl rfl rfl (Nat.le_of_ble_eq_true rfl) ⟨Nat.le_of_ble_eq_true rfl, Nat.le_of_ble_eq_true rfl⟩ ⟨Nat.zero_le _, Nat.zero_le _⟩ (fun r9 w9 hq9 => ?_)
            obtain ⟨rfl, rfl⟩ := hq9
            refine st_put C fl_RX1_24 fc_0 fw_0_4 (dk DX1_putKey_1 7 rfl) 0 rfl rfl rfl (Nat.le_of_ble_eq_true rfl) ?_
            exact Rr 0 0 _ _ _ _ _ _ (Nat.zero_le _) (Nat.zero_le _) (dk DX1_putKey_1 8 rfl) (.inl ⟨rfl, rfl, rfl, rfl⟩) rfl ⟨rfl, ⟨rfl, by first | (simp [c_18, c_31, c_37, c_60, c_67, rPut, rPutP, rPut1, rPut2, cF]; done) | (simp [c_18, c_31, c_37, c_60, c_67, rPut, rPutP, rPut1, rPut2, cF]; rfl) | (simp_all [rPut, rPutP, rPut1, rPut2, cF]; done) | (simp_all [rPut, rPutP, rPut1, rPut2, cF]; rfl)⟩⟩
      · refine st_iload_n C (dk DX1_putKey_0 20 rfl) rfl ?_
        refine st_bipush C (v := 17) (dk DX1_putKey_0 21 rfl) (by decide) ?_
        refine st_icmp_ne C (tgt := 57) (dk DX1_putKey_0 22 rfl) (by decide) (fun c_43 => ?_) (fun c_43 => ?_)
        · refine st_iload C (dk DX1_putKey_0 29 rfl) rfl ?_
          refine st_iload_n C (dk DX1_putKey_0 30 rfl) rfl ?_
          refine st_icmp_eq C (tgt := 70) (dk DX1_putKey_0 31 rfl) (by decide) (fun c_60 => ?_) (fun c_60 => ?_)
          · refine st_aload_n C (dk DX1_putKey_0 35 rfl) rfl ?_
            refine st_iload_n C (dk DX1_putKey_0 36 rfl) rfl ?_
            refine st_put C fl_RX1_34 fc_0 fw_0_3 (dk DX1_putKey_0 37 rfl) 0 rfl rfl rfl (Nat.le_of_ble_eq_true rfl) ?_
            refine st_iload C (dk DX1_putKey_0 38 rfl) rfl ?_
            refine st_istore C (dk DX1_putKey_0 39 rfl) (by decide) rfl ?_
            refine st_aload_n C (dk DX1_putKey_1 0 rfl) rfl ?_
            refine st_aload_n C (dk DX1_putKey_1 1 rfl) rfl ?_
            refine st_get C fl_RX1_24 (dk DX1_putKey_1 2 rfl) 0 rfl rfl ?_
            refine st_cS C (k_X0_cellOf l G) mf_X0_cellOf ms_X0_cellOf ml_RX1_60 (dk DX1_putKey_1 3 rfl) [] rfl rfl rfl rfl (Nat.le_of_ble_eq_true rfl) ⟨Nat.le_of_ble_eq_true rfl, Nat.le_of_ble_eq_true rfl⟩ ⟨Nat.zero_le _, Nat.zero_le _⟩ (fun r9 w9 hq9 => ?_)
            obtain ⟨rfl, rfl⟩ := hq9
            refine st_iload_n C (dk DX1_putKey_1 4 rfl) rfl ?_
            refine st_iload C (dk DX1_putKey_1 5 rfl) rfl ?_
            refine st_cS C (k_X0_of l G) mf_X0_of ms_X0_of ml_RX1_20 (dk DX1_putKey_1 6 rfl) [] rfl rfl rfl rfl (Nat.le_of_ble_eq_true rfl) ⟨Nat.le_of_ble_eq_true rfl, Nat.le_of_ble_eq_true rfl⟩ ⟨Nat.zero_le _, Nat.zero_le _⟩ (fun r9 w9 hq9 => ?_)
            obtain ⟨rfl, rfl⟩ := hq9
            refine st_put C fl_RX1_24 fc_0 fw_0_4 (dk DX1_putKey_1 7 rfl) 0 rfl rfl rfl (Nat.le_of_ble_eq_true rfl) ?_
            exact Rr 0 0 _ _ _ _ _ _ (Nat.zero_le _) (Nat.zero_le _) (dk DX1_putKey_1 8 rfl) (.inl ⟨rfl, rfl, rfl, rfl⟩) rfl ⟨rfl, ⟨rfl, by first | (simp [c_18, c_31, c_37, c_43, c_60, rPut, rPutP, rPut1, rPut2, cF]; done) | (simp [c_18, c_31, c_37, c_43, c_60, rPut, rPutP, rPut1, rPut2, cF]; rfl) | (simp_all [rPut, rPutP, rPut1, rPut2, cF]; done) | (simp_all [rPut, rPutP, rPut1, rPut2, cF]; rfl)⟩⟩
          · refine st_iload C (dk DX1_putKey_0 32 rfl) rfl ?_
            refine st_bipush C (v := 17) (dk DX1_putKey_0 33 rfl) (by decide) ?_
            refine st_icmp_ne C (tgt := 79) (dk DX1_putKey_0 34 rfl) (by decide) (fun c_67 => ?_) (fun c_67 => ?_)
            · refine st_aload_n C (dk DX1_putKey_1 0 rfl) rfl ?_
              refine st_aload_n C (dk DX1_putKey_1 1 rfl) rfl ?_
              refine st_get C fl_RX1_24 (dk DX1_putKey_1 2 rfl) 0 rfl rfl ?_
              refine st_cS C (k_X0_cellOf l G) mf_X0_cellOf ms_X0_cellOf ml_RX1_60 (dk DX1_putKey_1 3 rfl) [] rfl rfl rfl rfl (Nat.le_of_ble_eq_true rfl) ⟨Nat.le_of_ble_eq_true rfl, Nat.le_of_ble_eq_true rfl⟩ ⟨Nat.zero_le _, Nat.zero_le _⟩ (fun r9 w9 hq9 => ?_)
              obtain ⟨rfl, rfl⟩ := hq9
              refine st_iload_n C (dk DX1_putKey_1 4 rfl) rfl ?_
              refine st_iload C (dk DX1_putKey_1 5 rfl) rfl ?_
              refine st_cS C (k_X0_of l G) mf_X0_of ms_X0_of ml_RX1_20 (dk DX1_putKey_1 6 rfl) [] rfl rfl rfl rfl (Nat.le_of_ble_eq_true rfl) ⟨Nat.le_of_ble_eq_true rfl, Nat.le_of_ble_eq_true rfl⟩ ⟨Nat.zero_le _, Nat.zero_le _⟩ (fun r9 w9 hq9 => ?_)
              obtain ⟨rfl, rfl⟩ := hq9
              refine st_put C fl_RX1_24 fc_0 fw_0_4 (dk DX1_putKey_1 7 rfl) 0 rfl rfl rfl (Nat.le_of_ble_eq_true rfl) ?_
              exact Rr 0 0 _ _ _ _ _ _ (Nat.zero_le _) (Nat.zero_le _) (dk DX1_putKey_1 8 rfl) (.inl ⟨rfl, rfl, rfl, rfl⟩) rfl ⟨rfl, ⟨rfl, by first | (simp [c_18, c_31, c_37, c_43, c_60, c_67, rPut, rPutP, rPut1, rPut2, cF]; done) | (simp [c_18, c_31, c_37, c_43, c_60, c_67, rPut, rPutP, rPut1, rPut2, cF]; rfl) | (simp_all [rPut, rPutP, rPut1, rPut2, cF]; done) | (simp_all [rPut, rPutP, rPut1, rPut2, cF]; rfl)⟩⟩
            · refine st_aload_n C (dk DX1_putKey_0 35 rfl) rfl ?_
              refine st_iload_n C (dk DX1_putKey_0 36 rfl) rfl ?_
              refine st_put C fl_RX1_34 fc_0 fw_0_3 (dk DX1_putKey_0 37 rfl) 0 rfl rfl rfl (Nat.le_of_ble_eq_true rfl) ?_
              refine st_iload C (dk DX1_putKey_0 38 rfl) rfl ?_
              refine st_istore C (dk DX1_putKey_0 39 rfl) (by decide) rfl ?_
              refine st_aload_n C (dk DX1_putKey_1 0 rfl) rfl ?_
              refine st_aload_n C (dk DX1_putKey_1 1 rfl) rfl ?_
              refine st_get C fl_RX1_24 (dk DX1_putKey_1 2 rfl) 0 rfl rfl ?_
              refine st_cS C (k_X0_cellOf l G) mf_X0_cellOf ms_X0_cellOf ml_RX1_60 (dk DX1_putKey_1 3 rfl) [] rfl rfl rfl rfl (Nat.le_of_ble_eq_true rfl) ⟨Nat.le_of_ble_eq_true rfl, Nat.le_of_ble_eq_true rfl⟩ ⟨Nat.zero_le _, Nat.zero_le _⟩ (fun r9 w9 hq9 => ?_)
              obtain ⟨rfl, rfl⟩ := hq9
              refine st_iload_n C (dk DX1_putKey_1 4 rfl) rfl ?_
              refine st_iload C (dk DX1_putKey_1 5 rfl) rfl ?_
              refine st_cS C (k_X0_of l G) mf_X0_of ms_X0_of ml_RX1_20 (dk DX1_putKey_1 6 rfl) [] rfl rfl rfl rfl (Nat.le_of_ble_eq_true rfl) ⟨Nat.le_of_ble_eq_true rfl, Nat.le_of_ble_eq_true rfl⟩ ⟨Nat.zero_le _, Nat.zero_le _⟩ (fun r9 w9 hq9 => ?_)
              obtain ⟨rfl, rfl⟩ := hq9
              refine st_put C fl_RX1_24 fc_0 fw_0_4 (dk DX1_putKey_1 7 rfl) 0 rfl rfl rfl (Nat.le_of_ble_eq_true rfl) ?_
              exact Rr 0 0 _ _ _ _ _ _ (Nat.zero_le _) (Nat.zero_le _) (dk DX1_putKey_1 8 rfl) (.inl ⟨rfl, rfl, rfl, rfl⟩) rfl ⟨rfl, ⟨rfl, by first | (simp [c_18, c_31, c_37, c_43, c_60, c_67, rPut, rPutP, rPut1, rPut2, cF]; done) | (simp [c_18, c_31, c_37, c_43, c_60, c_67, rPut, rPutP, rPut1, rPut2, cF]; rfl) | (simp_all [rPut, rPutP, rPut1, rPut2, cF]; done) | (simp_all [rPut, rPutP, rPut1, rPut2, cF]; rfl)⟩⟩
        · refine st_aload_n C (dk DX1_putKey_0 23 rfl) rfl ?_
          refine st_iload_n C (dk DX1_putKey_0 24 rfl) rfl ?_
          refine st_put C fl_RX1_31 fc_0 fw_0_2 (dk DX1_putKey_0 25 rfl) 0 rfl rfl rfl (Nat.le_of_ble_eq_true rfl) ?_
          refine st_iload C (dk DX1_putKey_0 26 rfl) rfl ?_
          refine st_istore_n C (dk DX1_putKey_0 27 rfl) (by decide) rfl ?_
          refine st_goto C (tgt := 79) (dk DX1_putKey_0 28 rfl) (by decide) ?_
          refine st_aload_n C (dk DX1_putKey_1 0 rfl) rfl ?_
          refine st_aload_n C (dk DX1_putKey_1 1 rfl) rfl ?_
          refine st_get C fl_RX1_24 (dk DX1_putKey_1 2 rfl) 0 rfl rfl ?_
          refine st_cS C (k_X0_cellOf l G) mf_X0_cellOf ms_X0_cellOf ml_RX1_60 (dk DX1_putKey_1 3 rfl) [] rfl rfl rfl rfl (Nat.le_of_ble_eq_true rfl) ⟨Nat.le_of_ble_eq_true rfl, Nat.le_of_ble_eq_true rfl⟩ ⟨Nat.zero_le _, Nat.zero_le _⟩ (fun r9 w9 hq9 => ?_)
          obtain ⟨rfl, rfl⟩ := hq9
          refine st_iload_n C (dk DX1_putKey_1 4 rfl) rfl ?_
          refine st_iload C (dk DX1_putKey_1 5 rfl) rfl ?_
          refine st_cS C (k_X0_of l G) mf_X0_of ms_X0_of ml_RX1_20 (dk DX1_putKey_1 6 rfl) [] rfl rfl rfl rfl (Nat.le_of_ble_eq_true rfl) ⟨Nat.le_of_ble_eq_true rfl, Nat.le_of_ble_eq_true rfl⟩ ⟨Nat.zero_le _, Nat.zero_le _⟩ (fun r9 w9 hq9 => ?_)
          obtain ⟨rfl, rfl⟩ := hq9
          refine st_put C fl_RX1_24 fc_0 fw_0_4 (dk DX1_putKey_1 7 rfl) 0 rfl rfl rfl (Nat.le_of_ble_eq_true rfl) ?_
          exact Rr 0 0 _ _ _ _ _ _ (Nat.zero_le _) (Nat.zero_le _) (dk DX1_putKey_1 8 rfl) (.inl ⟨rfl, rfl, rfl, rfl⟩) rfl ⟨rfl, ⟨rfl, by first | (simp [c_18, c_31, c_37, c_43, rPut, rPutP, rPut1, rPut2, cF]; done) | (simp [c_18, c_31, c_37, c_43, rPut, rPutP, rPut1, rPut2, cF]; rfl) | (simp_all [rPut, rPutP, rPut1, rPut2, cF]; done) | (simp_all [rPut, rPutP, rPut1, rPut2, cF]; rfl)⟩⟩
