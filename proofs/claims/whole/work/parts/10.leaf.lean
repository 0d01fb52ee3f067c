/-! contracts of FoldedKeys$Code, of FoldedKeys' small tests, and of the corridor without loops -/
set_option maxHeartbeats 4000000 in
set_option maxRecDepth 100000 in
theorem k_X0_of (l : Launch) (G : wG) {a b c : Int32} : Con0 l G yX0_of cX0_of 3 (some .int) 0 [.int a, .int b, .int c] [] (fun r w => r = some (.int (rOf a b c)) ∧ w = []) := by
  refine Con.mk (by decide +kernel) (Nat.le_of_ble_eq_true rfl) (fun P C Rr => ?_)
  refine st_iload_n C (dk DX0_of_0 0 rfl) rfl ?_
  refine st_iload_n C (dk DX0_of_0 1 rfl) rfl ?_
  refine st_iconst C (v := 4) (dk DX0_of_0 2 rfl) (by decide) ?_
  refine st_ishl C (dk DX0_of_0 3 rfl) ?_
  refine st_ior C (dk DX0_of_0 4 rfl) ?_
  refine st_iload_n C (dk DX0_of_0 5 rfl) rfl ?_
  refine st_bipush C (v := 9) (dk DX0_of_0 6 rfl) (by decide) ?_
  refine st_ishl C (dk DX0_of_0 7 rfl) ?_
  refine st_ior C (dk DX0_of_0 8 rfl) ?_
  exact Rr 0 0 _ _ _ _ _ _ (Nat.zero_le _) (Nat.zero_le _) (dk DX0_of_0 9 rfl) (.inr (.inl ⟨_, rfl, rfl, rfl, rfl⟩)) rfl ⟨rfl, ⟨rfl, rfl⟩⟩
set_option maxHeartbeats 4000000 in
set_option maxRecDepth 100000 in
theorem k_X0_cellOf (l : Launch) (G : wG) {x : Int32} : Con0 l G yX0_cellOf cX0_cellOf 1 (some .int) 0 [.int x] [] (fun r w => r = some (.int (rCell x)) ∧ w = []) := by
  refine Con.mk (by decide +kernel) (Nat.le_of_ble_eq_true rfl) (fun P C Rr => ?_)
  refine st_iload_n C (dk DX0_cellOf_0 0 rfl) rfl ?_
  refine st_bipush C (v := 15) (dk DX0_cellOf_0 1 rfl) (by decide) ?_
  refine st_iand C (dk DX0_cellOf_0 2 rfl) ?_
  exact Rr 0 0 _ _ _ _ _ _ (Nat.zero_le _) (Nat.zero_le _) (dk DX0_cellOf_0 3 rfl) (.inr (.inl ⟨_, rfl, rfl, rfl, rfl⟩)) rfl ⟨rfl, ⟨rfl, rfl⟩⟩
set_option maxHeartbeats 4000000 in
set_option maxRecDepth 100000 in
theorem k_X0_firstOf (l : Launch) (G : wG) {x : Int32} : Con0 l G yX0_firstOf cX0_firstOf 1 (some .int) 0 [.int x] [] (fun r w => r = some (.int (rFst x)) ∧ w = []) := by
  refine Con.mk (by decide +kernel) (Nat.le_of_ble_eq_true rfl) (fun P C Rr => ?_)
  refine st_iload_n C (dk DX0_firstOf_0 0 rfl) rfl ?_
  refine st_iconst C (v := 4) (dk DX0_firstOf_0 1 rfl) (by decide) ?_
  refine st_ishr C (dk DX0_firstOf_0 2 rfl) ?_
  refine st_bipush C (v := 31) (dk DX0_firstOf_0 3 rfl) (by decide) ?_
  refine st_iand C (dk DX0_firstOf_0 4 rfl) ?_
  exact Rr 0 0 _ _ _ _ _ _ (Nat.zero_le _) (Nat.zero_le _) (dk DX0_firstOf_0 5 rfl) (.inr (.inl ⟨_, rfl, rfl, rfl, rfl⟩)) rfl ⟨rfl, ⟨rfl, rfl⟩⟩
set_option maxHeartbeats 4000000 in
set_option maxRecDepth 100000 in
theorem k_X0_secondOf (l : Launch) (G : wG) {x : Int32} : Con0 l G yX0_secondOf cX0_secondOf 1 (some .int) 0 [.int x] [] (fun r w => r = some (.int (rSnd x)) ∧ w = []) := by
  refine Con.mk (by decide +kernel) (Nat.le_of_ble_eq_true rfl) (fun P C Rr => ?_)
  refine st_iload_n C (dk DX0_secondOf_0 0 rfl) rfl ?_
  refine st_bipush C (v := 9) (dk DX0_secondOf_0 1 rfl) (by decide) ?_
  refine st_ishr C (dk DX0_secondOf_0 2 rfl) ?_
  refine st_bipush C (v := 31) (dk DX0_secondOf_0 3 rfl) (by decide) ?_
  refine st_iand C (dk DX0_secondOf_0 4 rfl) ?_
  exact Rr 0 0 _ _ _ _ _ _ (Nat.zero_le _) (Nat.zero_le _) (dk DX0_secondOf_0 5 rfl) (.inr (.inl ⟨_, rfl, rfl, rfl, rfl⟩)) rfl ⟨rfl, ⟨rfl, rfl⟩⟩
set_option maxHeartbeats 4000000 in
set_option maxRecDepth 100000 in
theorem k_X0_movedTo (l : Launch) (G : wG) {x c : Int32} : Con0 l G yX0_movedTo cX0_movedTo 2 (some .int) 1 [.int x, .int c] [] (fun r w => r = some (.int (rMov x c)) ∧ w = []) := by
  refine Con.mk (by decide +kernel) (Nat.le_of_ble_eq_true rfl) (fun P C Rr => ?_)
  refine st_iload_n C (dk DX0_movedTo_0 0 rfl) rfl ?_
  refine st_iload_n C (dk DX0_movedTo_0 1 rfl) rfl ?_
  refine st_cS C (k_X0_firstOf l G) mf_X0_firstOf ms_X0_firstOf ml_RX0_7 (dk DX0_movedTo_0 2 rfl) [] rfl rfl rfl rfl (Nat.le_of_ble_eq_true rfl) ⟨Nat.le_of_ble_eq_true rfl, Nat.le_of_ble_eq_true rfl⟩ ⟨Nat.zero_le _, Nat.zero_le _⟩ (fun r9 w9 hq9 => ?_)
  obtain ⟨rfl, rfl⟩ := hq9
  refine st_iload_n C (dk DX0_movedTo_0 3 rfl) rfl ?_
  refine st_cS C (k_X0_secondOf l G) mf_X0_secondOf ms_X0_secondOf ml_RX0_13 (dk DX0_movedTo_0 4 rfl) [] rfl rfl rfl rfl (Nat.le_of_ble_eq_true rfl) ⟨Nat.le_of_ble_eq_true rfl, Nat.le_of_ble_eq_true rfl⟩ ⟨Nat.zero_le _, Nat.zero_le _⟩ (fun r9 w9 hq9 => ?_)
  obtain ⟨rfl, rfl⟩ := hq9
  refine st_cS C (k_X0_of l G) mf_X0_of ms_X0_of ml_RX0_16 (dk DX0_movedTo_0 5 rfl) [] rfl rfl rfl rfl (Nat.le_of_ble_eq_true rfl) ⟨Nat.le_of_ble_eq_true rfl, Nat.le_of_ble_eq_true rfl⟩ ⟨Nat.zero_le _, Nat.zero_le _⟩ (fun r9 w9 hq9 => ?_)
  obtain ⟨rfl, rfl⟩ := hq9
  exact Rr 0 0 _ _ _ _ _ _ (Nat.zero_le _) (Nat.zero_le _) (dk DX0_movedTo_0 6 rfl) (.inr (.inl ⟨_, rfl, rfl, rfl, rfl⟩)) rfl ⟨rfl, ⟨rfl, rfl⟩⟩
set_option maxHeartbeats 4000000 in
set_option maxRecDepth 100000 in
theorem k_X0_swappedPlace (l : Launch) (G : wG) {a c : Int32} : Con0 l G yX0_swappedPlace cX0_swappedPlace 2 (some .int) 0 [.int a, .int c] [] (fun r w => r = some (.int (rSwP a c)) ∧ w = []) := by
  refine Con.mk (by decide +kernel) (Nat.le_of_ble_eq_true rfl) (fun P C Rr => ?_)
  refine st_iload_n C (dk DX0_swappedPlace_0 0 rfl) rfl ?_
  refine st_bipush C (v := 16) (dk DX0_swappedPlace_0 1 rfl) (by decide) ?_
  refine st_icmp_ne C (tgt := 8) (dk DX0_swappedPlace_0 2 rfl) (by decide) (fun c_3 => ?_) (fun c_3 => ?_)
  · refine st_iload_n C (dk DX0_swappedPlace_0 5 rfl) rfl ?_
    refine st_iload_n C (dk DX0_swappedPlace_0 6 rfl) rfl ?_
    refine st_icmp_ne C (tgt := 18) (dk DX0_swappedPlace_0 7 rfl) (by decide) (fun c_10 => ?_) (fun c_10 => ?_)
    · refine st_iload_n C (dk DX0_swappedPlace_0 10 rfl) rfl ?_
      exact Rr 0 0 _ _ _ _ _ _ (Nat.zero_le _) (Nat.zero_le _) (dk DX0_swappedPlace_0 11 rfl) (.inr (.inl ⟨_, rfl, rfl, rfl, rfl⟩)) rfl ⟨rfl, ⟨by first | (simp [c_3, c_10, rSwP]; done) | (simp_all [rSwP]; done), rfl⟩⟩
    · refine st_bipush C (v := 16) (dk DX0_swappedPlace_0 8 rfl) (by decide) ?_
      refine st_goto C (tgt := 19) (dk DX0_swappedPlace_0 9 rfl) (by decide) ?_
      exact Rr 0 0 _ _ _ _ _ _ (Nat.zero_le _) (Nat.zero_le _) (dk DX0_swappedPlace_0 11 rfl) (.inr (.inl ⟨_, rfl, rfl, rfl, rfl⟩)) rfl ⟨rfl, ⟨by first | (simp [c_3, c_10, rSwP]; done) | (simp_all [rSwP]; done), rfl⟩⟩
  · refine st_iload_n C (dk DX0_swappedPlace_0 3 rfl) rfl ?_
    exact Rr 0 0 _ _ _ _ _ _ (Nat.zero_le _) (Nat.zero_le _) (dk DX0_swappedPlace_0 4 rfl) (.inr (.inl ⟨_, rfl, rfl, rfl, rfl⟩)) rfl ⟨rfl, ⟨by first | (simp [c_3, rSwP]; done) | (simp_all [rSwP]; done), rfl⟩⟩
set_option maxHeartbeats 4000000 in
set_option maxRecDepth 100000 in
theorem k_X0_swapped (l : Launch) (G : wG) {x : Int32} : Con0 l G yX0_swapped cX0_swapped 2 (some .int) 1 [.int x] [] (fun r w => r = some (.int (rSwp x)) ∧ w = []) := by
  refine Con.mk (by decide +kernel) (Nat.le_of_ble_eq_true rfl) (fun P C Rr => ?_)
  refine st_iload_n C (dk DX0_swapped_0 0 rfl) rfl ?_
  refine st_cS C (k_X0_cellOf l G) mf_X0_cellOf ms_X0_cellOf ml_RX0_20 (dk DX0_swapped_0 1 rfl) [] rfl rfl rfl rfl (Nat.le_of_ble_eq_true rfl) ⟨Nat.le_of_ble_eq_true rfl, Nat.le_of_ble_eq_true rfl⟩ ⟨Nat.zero_le _, Nat.zero_le _⟩ (fun r9 w9 hq9 => ?_)
  obtain ⟨rfl, rfl⟩ := hq9
  refine st_istore_n C (dk DX0_swapped_0 2 rfl) (by decide) rfl ?_
  refine st_iload_n C (dk DX0_swapped_0 3 rfl) rfl ?_
  refine st_iload_n C (dk DX0_swapped_0 4 rfl) rfl ?_
  refine st_cS C (k_X0_firstOf l G) mf_X0_firstOf ms_X0_firstOf ml_RX0_7 (dk DX0_swapped_0 5 rfl) [] rfl rfl rfl rfl (Nat.le_of_ble_eq_true rfl) ⟨Nat.le_of_ble_eq_true rfl, Nat.le_of_ble_eq_true rfl⟩ ⟨Nat.zero_le _, Nat.zero_le _⟩ (fun r9 w9 hq9 => ?_)
  obtain ⟨rfl, rfl⟩ := hq9
  refine st_iload_n C (dk DX0_swapped_0 6 rfl) rfl ?_
  refine st_cS C (k_X0_swappedPlace l G) mf_X0_swappedPlace ms_X0_swappedPlace ml_RX0_23 (dk DX0_swapped_0 7 rfl) [] rfl rfl rfl rfl (Nat.le_of_ble_eq_true rfl) ⟨Nat.le_of_ble_eq_true rfl, Nat.le_of_ble_eq_true rfl⟩ ⟨Nat.zero_le _, Nat.zero_le _⟩ (fun r9 w9 hq9 => ?_)
  obtain ⟨rfl, rfl⟩ := hq9
  refine st_iload_n C (dk DX0_swapped_0 8 rfl) rfl ?_
  refine st_cS C (k_X0_secondOf l G) mf_X0_secondOf ms_X0_secondOf ml_RX0_13 (dk DX0_swapped_0 9 rfl) [] rfl rfl rfl rfl (Nat.le_of_ble_eq_true rfl) ⟨Nat.le_of_ble_eq_true rfl, Nat.le_of_ble_eq_true rfl⟩ ⟨Nat.zero_le _, Nat.zero_le _⟩ (fun r9 w9 hq9 => ?_)
  obtain ⟨rfl, rfl⟩ := hq9
  refine st_iload_n C (dk DX0_swapped_0 10 rfl) rfl ?_
  refine st_cS C (k_X0_swappedPlace l G) mf_X0_swappedPlace ms_X0_swappedPlace ml_RX0_23 (dk DX0_swapped_0 11 rfl) [] rfl rfl rfl rfl (Nat.le_of_ble_eq_true rfl) ⟨Nat.le_of_ble_eq_true rfl, Nat.le_of_ble_eq_true rfl⟩ ⟨Nat.zero_le _, Nat.zero_le _⟩ (fun r9 w9 hq9 => ?_)
  obtain ⟨rfl, rfl⟩ := hq9
  refine st_cS C (k_X0_of l G) mf_X0_of ms_X0_of ml_RX0_16 (dk DX0_swapped_0 12 rfl) [] rfl rfl rfl rfl (Nat.le_of_ble_eq_true rfl) ⟨Nat.le_of_ble_eq_true rfl, Nat.le_of_ble_eq_true rfl⟩ ⟨Nat.zero_le _, Nat.zero_le _⟩ (fun r9 w9 hq9 => ?_)
  obtain ⟨rfl, rfl⟩ := hq9
  exact Rr 0 0 _ _ _ _ _ _ (Nat.zero_le _) (Nat.zero_le _) (dk DX0_swapped_0 13 rfl) (.inr (.inl ⟨_, rfl, rfl, rfl, rfl⟩)) rfl ⟨rfl, ⟨rfl, rfl⟩⟩
set_option maxHeartbeats 4000000 in
set_option maxRecDepth 100000 in
theorem k_X5_isCell (l : Launch) (G : wG) {x : Int32} : Con0 l G yX5_isCell cX5_isCell 1 (some .boolean) 0 [.int x] [] (fun r w => r = some (.int (rIn x 16)) ∧ w = []) := by
  refine Con.mk (by decide +kernel) (Nat.le_of_ble_eq_true rfl) (fun P C Rr => ?_)
  refine st_iload_n C (dk DX5_isCell_0 0 rfl) rfl ?_
  refine st_if_lt C (tgt := 14) (dk DX5_isCell_0 1 rfl) (by decide) (fun c_1 => ?_) (fun c_1 => ?_)
  · refine st_iconst C (v := 0) (dk DX5_isCell_0 7 rfl) (by decide) ?_
    exact Rr 0 0 _ _ _ _ _ _ (Nat.zero_le _) (Nat.zero_le _) (dk DX5_isCell_0 8 rfl) (.inr (.inr (.inl ⟨_, rfl, (by first | exact Or.inl rfl | exact Or.inr rfl | assumption), rfl, rfl, rfl⟩))) rfl ⟨rfl, ⟨by first | (simp [c_1, rIn]; done) | (simp_all [rIn]; done), rfl⟩⟩
  · refine st_iload_n C (dk DX5_isCell_0 2 rfl) rfl ?_
    refine st_bipush C (v := 16) (dk DX5_isCell_0 3 rfl) (by decide) ?_
    refine st_icmp_ge C (tgt := 14) (dk DX5_isCell_0 4 rfl) (by decide) (fun c_7 => ?_) (fun c_7 => ?_)
    · refine st_iconst C (v := 0) (dk DX5_isCell_0 7 rfl) (by decide) ?_
      exact Rr 0 0 _ _ _ _ _ _ (Nat.zero_le _) (Nat.zero_le _) (dk DX5_isCell_0 8 rfl) (.inr (.inr (.inl ⟨_, rfl, (by first | exact Or.inl rfl | exact Or.inr rfl | assumption), rfl, rfl, rfl⟩))) rfl ⟨rfl, ⟨by first | (simp [c_1, c_7, rIn]; done) | (simp_all [rIn]; done), rfl⟩⟩
    · refine st_iconst C (v := 1) (dk DX5_isCell_0 5 rfl) (by decide) ?_
      refine st_goto C (tgt := 15) (dk DX5_isCell_0 6 rfl) (by decide) ?_
      exact Rr 0 0 _ _ _ _ _ _ (Nat.zero_le _) (Nat.zero_le _) (dk DX5_isCell_0 8 rfl) (.inr (.inr (.inl ⟨_, rfl, (by first | exact Or.inl rfl | exact Or.inr rfl | assumption), rfl, rfl, rfl⟩))) rfl ⟨rfl, ⟨by first | (simp [c_1, c_7, rIn]; done) | (simp_all [rIn]; done), rfl⟩⟩
set_option maxHeartbeats 4000000 in
set_option maxRecDepth 100000 in
theorem k_X5_isDoor (l : Launch) (G : wG) {x : Int32} : Con0 l G yX5_isDoor cX5_isDoor 1 (some .boolean) 0 [.int x] [] (fun r w => r = some (.int (rIn x 15)) ∧ w = []) := by
  refine Con.mk (by decide +kernel) (Nat.le_of_ble_eq_true rfl) (fun P C Rr => ?_)
  refine st_iload_n C (dk DX5_isDoor_0 0 rfl) rfl ?_
  refine st_if_lt C (tgt := 14) (dk DX5_isDoor_0 1 rfl) (by decide) (fun c_1 => ?_) (fun c_1 => ?_)
  · refine st_iconst C (v := 0) (dk DX5_isDoor_0 7 rfl) (by decide) ?_
    exact Rr 0 0 _ _ _ _ _ _ (Nat.zero_le _) (Nat.zero_le _) (dk DX5_isDoor_0 8 rfl) (.inr (.inr (.inl ⟨_, rfl, (by first | exact Or.inl rfl | exact Or.inr rfl | assumption), rfl, rfl, rfl⟩))) rfl ⟨rfl, ⟨by first | (simp [c_1, rIn]; done) | (simp_all [rIn]; done), rfl⟩⟩
  · refine st_iload_n C (dk DX5_isDoor_0 2 rfl) rfl ?_
    refine st_bipush C (v := 15) (dk DX5_isDoor_0 3 rfl) (by decide) ?_
    refine st_icmp_ge C (tgt := 14) (dk DX5_isDoor_0 4 rfl) (by decide) (fun c_7 => ?_) (fun c_7 => ?_)
    · refine st_iconst C (v := 0) (dk DX5_isDoor_0 7 rfl) (by decide) ?_
      exact Rr 0 0 _ _ _ _ _ _ (Nat.zero_le _) (Nat.zero_le _) (dk DX5_isDoor_0 8 rfl) (.inr (.inr (.inl ⟨_, rfl, (by first | exact Or.inl rfl | exact Or.inr rfl | assumption), rfl, rfl, rfl⟩))) rfl ⟨rfl, ⟨by first | (simp [c_1, c_7, rIn]; done) | (simp_all [rIn]; done), rfl⟩⟩
    · refine st_iconst C (v := 1) (dk DX5_isDoor_0 5 rfl) (by decide) ?_
      refine st_goto C (tgt := 15) (dk DX5_isDoor_0 6 rfl) (by decide) ?_
      exact Rr 0 0 _ _ _ _ _ _ (Nat.zero_le _) (Nat.zero_le _) (dk DX5_isDoor_0 8 rfl) (.inr (.inr (.inl ⟨_, rfl, (by first | exact Or.inl rfl | exact Or.inr rfl | assumption), rfl, rfl, rfl⟩))) rfl ⟨rfl, ⟨by first | (simp [c_1, c_7, rIn]; done) | (simp_all [rIn]; done), rfl⟩⟩
set_option maxHeartbeats 4000000 in
set_option maxRecDepth 100000 in
theorem k_X5_isStep (l : Launch) (G : wG) {x : Int32} : Con0 l G yX5_isStep cX5_isStep 1 (some .boolean) 0 [.int x] [] (fun r w => r = some (.int (rIn x 5)) ∧ w = []) := by
  refine Con.mk (by decide +kernel) (Nat.le_of_ble_eq_true rfl) (fun P C Rr => ?_)
  refine st_iload_n C (dk DX5_isStep_0 0 rfl) rfl ?_
  refine st_if_lt C (tgt := 13) (dk DX5_isStep_0 1 rfl) (by decide) (fun c_1 => ?_) (fun c_1 => ?_)
  · refine st_iconst C (v := 0) (dk DX5_isStep_0 7 rfl) (by decide) ?_
    exact Rr 0 0 _ _ _ _ _ _ (Nat.zero_le _) (Nat.zero_le _) (dk DX5_isStep_0 8 rfl) (.inr (.inr (.inl ⟨_, rfl, (by first | exact Or.inl rfl | exact Or.inr rfl | assumption), rfl, rfl, rfl⟩))) rfl ⟨rfl, ⟨by first | (simp [c_1, rIn]; done) | (simp_all [rIn]; done), rfl⟩⟩
  · refine st_iload_n C (dk DX5_isStep_0 2 rfl) rfl ?_
    refine st_iconst C (v := 5) (dk DX5_isStep_0 3 rfl) (by decide) ?_
    refine st_icmp_ge C (tgt := 13) (dk DX5_isStep_0 4 rfl) (by decide) (fun c_6 => ?_) (fun c_6 => ?_)
    · refine st_iconst C (v := 0) (dk DX5_isStep_0 7 rfl) (by decide) ?_
      exact Rr 0 0 _ _ _ _ _ _ (Nat.zero_le _) (Nat.zero_le _) (dk DX5_isStep_0 8 rfl) (.inr (.inr (.inl ⟨_, rfl, (by first | exact Or.inl rfl | exact Or.inr rfl | assumption), rfl, rfl, rfl⟩))) rfl ⟨rfl, ⟨by first | (simp [c_1, c_6, rIn]; done) | (simp_all [rIn]; done), rfl⟩⟩
    · refine st_iconst C (v := 1) (dk DX5_isStep_0 5 rfl) (by decide) ?_
      refine st_goto C (tgt := 14) (dk DX5_isStep_0 6 rfl) (by decide) ?_
      exact Rr 0 0 _ _ _ _ _ _ (Nat.zero_le _) (Nat.zero_le _) (dk DX5_isStep_0 8 rfl) (.inr (.inr (.inl ⟨_, rfl, (by first | exact Or.inl rfl | exact Or.inr rfl | assumption), rfl, rfl, rfl⟩))) rfl ⟨rfl, ⟨by first | (simp [c_1, c_6, rIn]; done) | (simp_all [rIn]; done), rfl⟩⟩
set_option maxHeartbeats 4000000 in
set_option maxRecDepth 100000 in
theorem k_X5_isBow (l : Launch) (G : wG) {x : Int32} : Con0 l G yX5_isBow cX5_isBow 1 (some .boolean) 0 [.int x] [] (fun r w => r = some (.int (rBowOk x)) ∧ w = []) := by
  refine Con.mk (by decide +kernel) (Nat.le_of_ble_eq_true rfl) (fun P C Rr => ?_)
  refine st_iload_n C (dk DX5_isBow_0 0 rfl) rfl ?_
  refine st_if_lt C (tgt := 13) (dk DX5_isBow_0 1 rfl) (by decide) (fun c_1 => ?_) (fun c_1 => ?_)
  · refine st_iconst C (v := 0) (dk DX5_isBow_0 7 rfl) (by decide) ?_
    exact Rr 0 0 _ _ _ _ _ _ (Nat.zero_le _) (Nat.zero_le _) (dk DX5_isBow_0 8 rfl) (.inr (.inr (.inl ⟨_, rfl, (by first | exact Or.inl rfl | exact Or.inr rfl | assumption), rfl, rfl, rfl⟩))) rfl ⟨rfl, ⟨by first | (simp [c_1, rBowOk]; done) | (simp_all [rBowOk]; done), rfl⟩⟩
  · refine st_iload_n C (dk DX5_isBow_0 2 rfl) rfl ?_
    refine st_iconst C (v := 5) (dk DX5_isBow_0 3 rfl) (by decide) ?_
    refine st_icmp_gt C (tgt := 13) (dk DX5_isBow_0 4 rfl) (by decide) (fun c_6 => ?_) (fun c_6 => ?_)
    · refine st_iconst C (v := 0) (dk DX5_isBow_0 7 rfl) (by decide) ?_
      exact Rr 0 0 _ _ _ _ _ _ (Nat.zero_le _) (Nat.zero_le _) (dk DX5_isBow_0 8 rfl) (.inr (.inr (.inl ⟨_, rfl, (by first | exact Or.inl rfl | exact Or.inr rfl | assumption), rfl, rfl, rfl⟩))) rfl ⟨rfl, ⟨by first | (simp [c_1, c_6, rBowOk]; done) | (simp_all [rBowOk]; done), rfl⟩⟩
    · refine st_iconst C (v := 1) (dk DX5_isBow_0 5 rfl) (by decide) ?_
      refine st_goto C (tgt := 14) (dk DX5_isBow_0 6 rfl) (by decide) ?_
      exact Rr 0 0 _ _ _ _ _ _ (Nat.zero_le _) (Nat.zero_le _) (dk DX5_isBow_0 8 rfl) (.inr (.inr (.inl ⟨_, rfl, (by first | exact Or.inl rfl | exact Or.inr rfl | assumption), rfl, rfl, rfl⟩))) rfl ⟨rfl, ⟨by first | (simp [c_1, c_6, rBowOk]; done) | (simp_all [rBowOk]; done), rfl⟩⟩
set_option maxHeartbeats 4000000 in
set_option maxRecDepth 100000 in
theorem k_X5_mix (l : Launch) (G : wG) {h v : Int64} : Con0 l G yX5_mix cX5_mix 4 (some .long) 0 [.long h, .long v] [] (fun r w => r = some (.long (rMix h v)) ∧ w = []) := by
  refine Con.mk (by decide +kernel) (Nat.le_of_ble_eq_true rfl) (fun P C Rr => ?_)
  refine st_ldc2 C (dk DX5_mix_0 0 rfl) kc_RX5_215 ?_
  refine st_lload_n C (dk DX5_mix_0 1 rfl) rfl ?_
  refine st_lmul C (dk DX5_mix_0 2 rfl) ?_
  refine st_lload_n C (dk DX5_mix_0 3 rfl) rfl ?_
  refine st_ladd C (dk DX5_mix_0 4 rfl) ?_
  exact Rr 0 0 _ _ _ _ _ _ (Nat.zero_le _) (Nat.zero_le _) (dk DX5_mix_0 5 rfl) (.inr (.inr (.inr (.inl ⟨_, rfl, rfl, rfl, rfl⟩)))) rfl ⟨rfl, ⟨rfl, rfl⟩⟩
set_option maxHeartbeats 4000000 in
set_option maxRecDepth 100000 in
theorem k_X1_bowIn (l : Launch) (G : wG) {p q1 q2 : Nat} {fb sb co le sp sw dp : Int32} {x a : Int32} : Con0 l G yX1_bowIn cX1_bowIn 3 (some .int) 1 [.ref p, .int x, .int a] [(p, ob 0 (cF q1 q2 fb sb co le sp sw dp))] (fun r w => r = some (.int (rBow fb sb x a)) ∧ w = [(p, ob 0 (cF q1 q2 fb sb co le sp sw dp))]) := by
  refine Con.mk (by decide +kernel) (Nat.le_of_ble_eq_true rfl) (fun P C Rr => ?_)
  refine st_iload_n C (dk DX1_bowIn_0 0 rfl) rfl ?_
  refine st_cS C (k_X0_firstOf l G) mf_X0_firstOf ms_X0_firstOf ml_RX1_53 (dk DX1_bowIn_0 1 rfl) [] rfl rfl rfl rfl (Nat.le_of_ble_eq_true rfl) ⟨Nat.le_of_ble_eq_true rfl, Nat.le_of_ble_eq_true rfl⟩ ⟨Nat.zero_le _, Nat.zero_le _⟩ (fun r9 w9 hq9 => ?_)
  obtain ⟨rfl, rfl⟩ := hq9
  refine st_iload_n C (dk DX1_bowIn_0 2 rfl) rfl ?_
  refine st_icmp_ne C (tgt := 13) (dk DX1_bowIn_0 3 rfl) (by decide) (fun c_5 => ?_) (fun c_5 => ?_)
  · refine st_iload_n C (dk DX1_bowIn_0 7 rfl) rfl ?_
    refine st_cS C (k_X0_secondOf l G) mf_X0_secondOf ms_X0_secondOf ml_RX1_57 (dk DX1_bowIn_0 8 rfl) [] rfl rfl rfl rfl (Nat.le_of_ble_eq_true rfl) ⟨Nat.le_of_ble_eq_true rfl, Nat.le_of_ble_eq_true rfl⟩ ⟨Nat.zero_le _, Nat.zero_le _⟩ (fun r9 w9 hq9 => ?_)
    obtain ⟨rfl, rfl⟩ := hq9
    refine st_iload_n C (dk DX1_bowIn_0 9 rfl) rfl ?_
    refine st_icmp_ne C (tgt := 28) (dk DX1_bowIn_0 10 rfl) (by decide) (fun c_18 => ?_) (fun c_18 => ?_)
    · refine st_iconst C (v := 0) (dk DX1_bowIn_0 14 rfl) (by decide) ?_
      exact Rr 0 0 _ _ _ _ _ _ (Nat.zero_le _) (Nat.zero_le _) (dk DX1_bowIn_0 15 rfl) (.inr (.inl ⟨_, rfl, rfl, rfl, rfl⟩)) rfl ⟨rfl, ⟨by first | (simp [c_5, c_18, rBow]; done) | (simp_all [rBow]; done), rfl⟩⟩
    · refine st_aload_n C (dk DX1_bowIn_0 11 rfl) rfl ?_
      refine st_get C fl_RX1_34 (dk DX1_bowIn_0 12 rfl) 0 rfl rfl ?_
      refine st_goto C (tgt := 29) (dk DX1_bowIn_0 13 rfl) (by decide) ?_
      exact Rr 0 0 _ _ _ _ _ _ (Nat.zero_le _) (Nat.zero_le _) (dk DX1_bowIn_0 15 rfl) (.inr (.inl ⟨_, rfl, rfl, rfl, rfl⟩)) rfl ⟨rfl, ⟨by first | (simp [c_5, c_18, rBow]; done) | (simp_all [rBow]; done), rfl⟩⟩
  · refine st_aload_n C (dk DX1_bowIn_0 4 rfl) rfl ?_
    refine st_get C fl_RX1_31 (dk DX1_bowIn_0 5 rfl) 0 rfl rfl ?_
    exact Rr 0 0 _ _ _ _ _ _ (Nat.zero_le _) (Nat.zero_le _) (dk DX1_bowIn_0 6 rfl) (.inr (.inl ⟨_, rfl, rfl, rfl, rfl⟩)) rfl ⟨rfl, ⟨by first | (simp [c_5, rBow]; done) | (simp_all [rBow]; done), rfl⟩⟩
set_option maxHeartbeats 4000000 in
set_option maxRecDepth 100000 in
theorem k_X1_keys (l : Launch) (G : wG) {p q1 q2 : Nat} {fb sb co le sp sw dp : Int32} : Con0 l G yX1_keys cX1_keys 1 (some .int) 0 [.ref p] [(p, ob 0 (cF q1 q2 fb sb co le sp sw dp))] (fun r w => r = some (.int (rKeys fb sb)) ∧ w = [(p, ob 0 (cF q1 q2 fb sb co le sp sw dp))]) := by
  refine Con.mk (by decide +kernel) (Nat.le_of_ble_eq_true rfl) (fun P C Rr => ?_)
  refine st_aload_n C (dk DX1_keys_0 0 rfl) rfl ?_
  refine st_get C fl_RX1_31 (dk DX1_keys_0 1 rfl) 0 rfl rfl ?_
  refine st_if_eq C (tgt := 11) (dk DX1_keys_0 2 rfl) (by decide) (fun c_4 => ?_) (fun c_4 => ?_)
  · refine st_iconst C (v := 0) (dk DX1_keys_0 5 rfl) (by decide) ?_
    refine st_aload_n C (dk DX1_keys_0 6 rfl) rfl ?_
    refine st_get C fl_RX1_34 (dk DX1_keys_0 7 rfl) 0 rfl rfl ?_
    refine st_if_eq C (tgt := 23) (dk DX1_keys_0 8 rfl) (by decide) (fun c_16 => ?_) (fun c_16 => ?_)
    · refine st_iconst C (v := 0) (dk DX1_keys_0 11 rfl) (by decide) ?_
      refine st_iadd C (dk DX1_keys_0 12 rfl) ?_
      exact Rr 0 0 _ _ _ _ _ _ (Nat.zero_le _) (Nat.zero_le _) (dk DX1_keys_0 13 rfl) (.inr (.inl ⟨_, rfl, rfl, rfl, rfl⟩)) rfl ⟨rfl, ⟨by first | (simp [c_4, c_16, rKeys]; done) | (simp_all [rKeys]; done), rfl⟩⟩
    · refine st_iconst C (v := 1) (dk DX1_keys_0 9 rfl) (by decide) ?_
      refine st_goto C (tgt := 24) (dk DX1_keys_0 10 rfl) (by decide) ?_
      refine st_iadd C (dk DX1_keys_0 12 rfl) ?_
      exact Rr 0 0 _ _ _ _ _ _ (Nat.zero_le _) (Nat.zero_le _) (dk DX1_keys_0 13 rfl) (.inr (.inl ⟨_, rfl, rfl, rfl, rfl⟩)) rfl ⟨rfl, ⟨by first | (simp [c_4, c_16, rKeys]; done) | (simp_all [rKeys]; done), rfl⟩⟩
  · refine st_iconst C (v := 1) (dk DX1_keys_0 3 rfl) (by decide) ?_
    refine st_goto C (tgt := 12) (dk DX1_keys_0 4 rfl) (by decide) ?_
    refine st_aload_n C (dk DX1_keys_0 6 rfl) rfl ?_
    refine st_get C fl_RX1_34 (dk DX1_keys_0 7 rfl) 0 rfl rfl ?_
    refine st_if_eq C (tgt := 23) (dk DX1_keys_0 8 rfl) (by decide) (fun c_16 => ?_) (fun c_16 => ?_)
    · refine st_iconst C (v := 0) (dk DX1_keys_0 11 rfl) (by decide) ?_
      refine st_iadd C (dk DX1_keys_0 12 rfl) ?_
      exact Rr 0 0 _ _ _ _ _ _ (Nat.zero_le _) (Nat.zero_le _) (dk DX1_keys_0 13 rfl) (.inr (.inl ⟨_, rfl, rfl, rfl, rfl⟩)) rfl ⟨rfl, ⟨by first | (simp [c_4, c_16, rKeys]; done) | (simp_all [rKeys]; done), rfl⟩⟩
    · refine st_iconst C (v := 1) (dk DX1_keys_0 9 rfl) (by decide) ?_
      refine st_goto C (tgt := 24) (dk DX1_keys_0 10 rfl) (by decide) ?_
      refine st_iadd C (dk DX1_keys_0 12 rfl) ?_
      exact Rr 0 0 _ _ _ _ _ _ (Nat.zero_le _) (Nat.zero_le _) (dk DX1_keys_0 13 rfl) (.inr (.inl ⟨_, rfl, rfl, rfl, rfl⟩)) rfl ⟨rfl, ⟨by first | (simp [c_4, c_16, rKeys]; done) | (simp_all [rKeys]; done), rfl⟩⟩
set_option maxHeartbeats 4000000 in
set_option maxRecDepth 100000 in
theorem k_X1_lockBehind (l : Launch) (G : wG) {p q1 q2 : Nat} {fb sb co le sp sw dp : Int32} {lk : Nat → Int32} {c : Int32} : Con0 l G yX1_lockBehind cX1_lockBehind 2 (some .int) 1 [.ref p, .int c] [(p, ob 0 (cF q1 q2 fb sb co le sp sw dp)), (q1, aI G 15 lk)] (fun r w => r = some (.int (rLock lk c)) ∧ w = [(p, ob 0 (cF q1 q2 fb sb co le sp sw dp)), (q1, aI G 15 lk)]) := by
  refine Con.mk (by decide +kernel) (Nat.le_of_ble_eq_true rfl) (fun P C Rr => ?_)
  refine st_iload_n C (dk DX1_lockBehind_0 0 rfl) rfl ?_
  refine st_cS C (k_X5_isDoor l G) mf_X5_isDoor ms_X5_isDoor ml_RX1_46 (dk DX1_lockBehind_0 1 rfl) [] rfl rfl rfl rfl (Nat.le_of_ble_eq_true rfl) ⟨Nat.le_of_ble_eq_true rfl, Nat.le_of_ble_eq_true rfl⟩ ⟨Nat.zero_le _, Nat.zero_le _⟩ (fun r9 w9 hq9 => ?_)
  obtain ⟨rfl, rfl⟩ := hq9
  refine st_if_eq C (tgt := 16) (dk DX1_lockBehind_0 2 rfl) (by decide) (fun c_4 => ?_) (fun c_4 => ?_)
  · refine st_iconst C (v := 0) (dk DX1_lockBehind_0 8 rfl) (by decide) ?_
    exact Rr 0 0 _ _ _ _ _ _ (Nat.zero_le _) (Nat.zero_le _) (dk DX1_lockBehind_0 9 rfl) (.inr (.inl ⟨_, rfl, rfl, rfl, rfl⟩)) rfl ⟨rfl, ⟨by first | (simp [c_4, rLock]; done) | (simp_all [rLock]; done), rfl⟩⟩
  · refine st_aload_n C (dk DX1_lockBehind_0 3 rfl) rfl ?_
    refine st_get C fl_RX1_9 (dk DX1_lockBehind_0 4 rfl) 0 rfl rfl ?_
    refine st_iload_n C (dk DX1_lockBehind_0 5 rfl) rfl ?_
    refine st_iald C (dk DX1_lockBehind_0 6 rfl) 1 rfl (rIn_vp (by decide) (by decide) c_4) ?_
    refine st_goto C (tgt := 17) (dk DX1_lockBehind_0 7 rfl) (by decide) ?_
    exact Rr 0 0 _ _ _ _ _ _ (Nat.zero_le _) (Nat.zero_le _) (dk DX1_lockBehind_0 9 rfl) (.inr (.inl ⟨_, rfl, rfl, rfl, rfl⟩)) rfl ⟨rfl, ⟨by first | (simp [c_4, rLock]; done) | (simp_all [rLock]; done), rfl⟩⟩
set_option maxHeartbeats 4000000 in
set_option maxRecDepth 100000 in
theorem k_X1_ladderIn (l : Launch) (G : wG) {p q1 q2 : Nat} {fb sb co le sp sw dp : Int32} {ld : Nat → Int32} {c : Int32} : Con0 l G yX1_ladderIn cX1_ladderIn 2 (some .int) 1 [.ref p, .int c] [(p, ob 0 (cF q1 q2 fb sb co le sp sw dp)), (q2, aI G 16 ld)] (fun r w => r = some (.int (rLad ld c)) ∧ w = [(p, ob 0 (cF q1 q2 fb sb co le sp sw dp)), (q2, aI G 16 ld)]) := by
  refine Con.mk (by decide +kernel) (Nat.le_of_ble_eq_true rfl) (fun P C Rr => ?_)
  refine st_iload_n C (dk DX1_ladderIn_0 0 rfl) rfl ?_
  refine st_cS C (k_X5_isCell l G) mf_X5_isCell ms_X5_isCell ml_RX1_50 (dk DX1_ladderIn_0 1 rfl) [] rfl rfl rfl rfl (Nat.le_of_ble_eq_true rfl) ⟨Nat.le_of_ble_eq_true rfl, Nat.le_of_ble_eq_true rfl⟩ ⟨Nat.zero_le _, Nat.zero_le _⟩ (fun r9 w9 hq9 => ?_)
  obtain ⟨rfl, rfl⟩ := hq9
  refine st_if_eq C (tgt := 16) (dk DX1_ladderIn_0 2 rfl) (by decide) (fun c_4 => ?_) (fun c_4 => ?_)
  · refine st_iconst C (v := 0) (dk DX1_ladderIn_0 8 rfl) (by decide) ?_
    exact Rr 0 0 _ _ _ _ _ _ (Nat.zero_le _) (Nat.zero_le _) (dk DX1_ladderIn_0 9 rfl) (.inr (.inl ⟨_, rfl, rfl, rfl, rfl⟩)) rfl ⟨rfl, ⟨by first | (simp [c_4, rLad]; done) | (simp_all [rLad]; done), rfl⟩⟩
  · refine st_aload_n C (dk DX1_ladderIn_0 3 rfl) rfl ?_
    refine st_get C fl_RX1_15 (dk DX1_ladderIn_0 4 rfl) 0 rfl rfl ?_
    refine st_iload_n C (dk DX1_ladderIn_0 5 rfl) rfl ?_
    refine st_iald C (dk DX1_ladderIn_0 6 rfl) 1 rfl (rIn_vp (by decide) (by decide) c_4) ?_
    refine st_goto C (tgt := 17) (dk DX1_ladderIn_0 7 rfl) (by decide) ?_
    exact Rr 0 0 _ _ _ _ _ _ (Nat.zero_le _) (Nat.zero_le _) (dk DX1_ladderIn_0 9 rfl) (.inr (.inl ⟨_, rfl, rfl, rfl, rfl⟩)) rfl ⟨rfl, ⟨by first | (simp [c_4, rLad]; done) | (simp_all [rLad]; done), rfl⟩⟩
set_option maxHeartbeats 4000000 in
set_option maxRecDepth 100000 in
theorem k_X1_floorOf (l : Launch) (G : wG) {p q1 q2 : Nat} {fb sb co le sp sw dp : Int32} {c : Int32} : Con0 l G yX1_floorOf cX1_floorOf 2 (some .int) 0 [.ref p, .int c] [(p, ob 0 (cF q1 q2 fb sb co le sp sw dp))] (fun r w => r = some (.int (rFloor le c)) ∧ w = [(p, ob 0 (cF q1 q2 fb sb co le sp sw dp))]) := by
  refine Con.mk (by decide +kernel) (Nat.le_of_ble_eq_true rfl) (fun P C Rr => ?_)
  refine st_aload_n C (dk DX1_floorOf_0 0 rfl) rfl ?_
  refine st_get C fl_RX1_28 (dk DX1_floorOf_0 1 rfl) 0 rfl rfl ?_
  refine st_if_le C (tgt := 16) (dk DX1_floorOf_0 2 rfl) (by decide) (fun c_4 => ?_) (fun c_4 => ?_)
  · refine st_iconst C (v := 0) (dk DX1_floorOf_0 8 rfl) (by decide) ?_
    exact Rr 0 0 _ _ _ _ _ _ (Nat.zero_le _) (Nat.zero_le _) (dk DX1_floorOf_0 9 rfl) (.inr (.inl ⟨_, rfl, rfl, rfl, rfl⟩)) rfl ⟨rfl, ⟨by first | (simp [c_4, rFloor]; done) | (simp_all [rFloor]; done), rfl⟩⟩
  · refine st_iload_n C (dk DX1_floorOf_0 3 rfl) rfl ?_
    refine st_aload_n C (dk DX1_floorOf_0 4 rfl) rfl ?_
    refine st_get C fl_RX1_28 (dk DX1_floorOf_0 5 rfl) 0 rfl rfl ?_
    refine st_idiv C (dk DX1_floorOf_0 6 rfl) (fun h => c_4 (by rw [h]; decide)) ?_
    refine st_goto C (tgt := 17) (dk DX1_floorOf_0 7 rfl) (by decide) ?_
    exact Rr 0 0 _ _ _ _ _ _ (Nat.zero_le _) (Nat.zero_le _) (dk DX1_floorOf_0 9 rfl) (.inr (.inl ⟨_, rfl, rfl, rfl, rfl⟩)) rfl ⟨rfl, ⟨by first | (simp [c_4, rFloor]; done) | (simp_all [rFloor]; done), rfl⟩⟩
