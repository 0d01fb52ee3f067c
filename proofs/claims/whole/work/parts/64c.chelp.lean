/-! the landed class: its private methods, 3 -/
set_option maxHeartbeats 4000000 in
set_option maxRecDepth 100000 in
theorem k_X5_numberOfCell (l : Launch) (G : wG) {K p q1 q2 o v t t1 t2 t3 t4 y : Nat} {s : mS} {ns lk ld : Nat → Int32} {zz rc : Int32} {en : Nat → Int32} {sn : Nat → Int64} {nd ln : Nat → Int32} {x z : Int32} {c w9 : Nat} (hC : CRep s ns lk ld) (hx : x = nI c) (hc : c < 16) (hz : z = nI w9) (hw : w9 ≤ 6) (hS : w9 = 6 → SRx s rc en nd ln) : Con0 l G yX5_numberOfCell cX5_numberOfCell 3 (some .int) 3 [.ref K, .int x, .int z] [(K, ob 4 (kF p o v t y)), (p, ob 0 (cR q1 q2 ns)), (q1, aI G 15 lk), (q2, aI G 16 ld), (t, ob 2 (sF t1 t2 t3 t4 zz rc)), (t1, aI G 4624 en), (t2, aJ G 256 sn), (t3, aI G 16 nd), (t4, aI G 16 ln)] (fun r w => r = some (.int (ofI s c w9)) ∧ w = [(K, ob 4 (kF p o v t y)), (p, ob 0 (cR q1 q2 ns)), (q1, aI G 15 lk), (q2, aI G 16 ld), (t, ob 2 (sF t1 t2 t3 t4 zz rc)), (t1, aI G 4624 en), (t2, aJ G 256 sn), (t3, aI G 16 nd), (t4, aI G 16 ln)]) := by
  refine Con.mk (by decide +kernel) (Nat.le_of_ble_eq_true rfl) (fun P C Rr => ?_)
  subst hx
  subst hz
  refine st_iload_n C (dk DX5_numberOfCell_0 0 rfl) rfl ?_
  by_cases t_1_0 : nI w9 = 0
  · refine st_tswIn C (off := 39) (tgt := 40) (dk DX5_numberOfCell_0 1 rfl) (by rw [t_1_0]; decide) (by rw [t_1_0]; decide) (by rw [t_1_0]; rfl) (by decide) ?_
    refine st_aload_n C (dk DX5_numberOfCell_0 2 rfl) rfl ?_
    refine st_get C fl_RX5_10 (dk DX5_numberOfCell_0 3 rfl) 0 rfl rfl ?_
    refine st_aload_n C (dk DX5_numberOfCell_0 4 rfl) rfl ?_
    refine st_get C fl_RX5_10 (dk DX5_numberOfCell_0 5 rfl) 0 rfl rfl ?_
    refine st_get C fl_RX5_78 (dk DX5_numberOfCell_0 6 rfl) 1 rfl rfl ?_
    refine st_iload_n C (dk DX5_numberOfCell_0 7 rfl) rfl ?_
    refine st_cV C (k_X1_bowIn l G) mf_X1_bowIn mi_X1_bowIn ml_RX5_82 (dk DX5_numberOfCell_0 8 rfl) [1] rfl rfl rfl rfl (Nat.le_of_ble_eq_true rfl) rfl rfl ⟨Nat.le_of_ble_eq_true rfl, Nat.le_of_ble_eq_true rfl⟩ ⟨Nat.zero_le _, Nat.zero_le _⟩ (fun r9 w9 hq9 => ?_)
    obtain ⟨rfl, rfl⟩ := hq9
    show P _ _ _ _ _ [_, _, _, _, _, _, _, _, _]
    refine Rr 0 0 _ _ _ _ _ _ (Nat.zero_le _) (Nat.zero_le _) (dk DX5_numberOfCell_0 9 rfl) (.inr (.inl ⟨_, rfl, rfl, rfl, rfl⟩)) rfl ?_
    obtain rfl : w9 = 0 := (nI_eq (by omega) (by omega)).mp (show nI w9 = nI 0 from t_1_0)
    exact ⟨rfl, by rw [hC.bowc hc, ofI0], rfl⟩
  by_cases t_1_1 : nI w9 = 1
  · refine st_tswIn C (off := 55) (tgt := 56) (dk DX5_numberOfCell_0 1 rfl) (by rw [t_1_1]; decide) (by rw [t_1_1]; decide) (by rw [t_1_1]; rfl) (by decide) ?_
    refine st_aload_n C (dk DX5_numberOfCell_0 10 rfl) rfl ?_
    refine st_get C fl_RX5_10 (dk DX5_numberOfCell_0 11 rfl) 0 rfl rfl ?_
    refine st_iload_n C (dk DX5_numberOfCell_0 12 rfl) rfl ?_
    refine st_cV C (k_X1_lockBehind l G) mf_X1_lockBehind mi_X1_lockBehind ml_RX5_63 (dk DX5_numberOfCell_0 13 rfl) [1, 2] rfl rfl rfl rfl (Nat.le_of_ble_eq_true rfl) rfl rfl ⟨Nat.le_of_ble_eq_true rfl, Nat.le_of_ble_eq_true rfl⟩ ⟨Nat.zero_le _, Nat.zero_le _⟩ (fun r9 w9 hq9 => ?_)
    obtain ⟨rfl, rfl⟩ := hq9
    show P _ _ _ _ _ [_, _, _, _, _, _, _, _, _]
    refine Rr 0 0 _ _ _ _ _ _ (Nat.zero_le _) (Nat.zero_le _) (dk DX5_numberOfCell_0 14 rfl) (.inr (.inl ⟨_, rfl, rfl, rfl, rfl⟩)) rfl ?_
    obtain rfl : w9 = 1 := (nI_eq (by omega) (by omega)).mp (show nI w9 = nI 1 from t_1_1)
    exact ⟨rfl, by rw [hC.lock hc, ofI1], rfl⟩
  by_cases t_1_2 : nI w9 = 2
  · refine st_tswIn C (off := 64) (tgt := 65) (dk DX5_numberOfCell_0 1 rfl) (by rw [t_1_2]; decide) (by rw [t_1_2]; decide) (by rw [t_1_2]; rfl) (by decide) ?_
    refine st_aload_n C (dk DX5_numberOfCell_0 15 rfl) rfl ?_
    refine st_get C fl_RX5_10 (dk DX5_numberOfCell_0 16 rfl) 0 rfl rfl ?_
    refine st_iload_n C (dk DX5_numberOfCell_0 17 rfl) rfl ?_
    refine st_cV C (k_X1_ladderIn l G) mf_X1_ladderIn mi_X1_ladderIn ml_RX5_98 (dk DX5_numberOfCell_0 18 rfl) [1, 3] rfl rfl rfl rfl (Nat.le_of_ble_eq_true rfl) rfl rfl ⟨Nat.le_of_ble_eq_true rfl, Nat.le_of_ble_eq_true rfl⟩ ⟨Nat.zero_le _, Nat.zero_le _⟩ (fun r9 w9 hq9 => ?_)
    obtain ⟨rfl, rfl⟩ := hq9
    show P _ _ _ _ _ [_, _, _, _, _, _, _, _, _]
    refine Rr 0 0 _ _ _ _ _ _ (Nat.zero_le _) (Nat.zero_le _) (dk DX5_numberOfCell_0 19 rfl) (.inr (.inl ⟨_, rfl, rfl, rfl, rfl⟩)) rfl ?_
    obtain rfl : w9 = 2 := (nI_eq (by omega) (by omega)).mp (show nI w9 = nI 2 from t_1_2)
    exact ⟨rfl, by rw [hC.lad hc, ofI2], rfl⟩
  by_cases t_1_3 : nI w9 = 3
  · refine st_tswIn C (off := 73) (tgt := 74) (dk DX5_numberOfCell_0 1 rfl) (by rw [t_1_3]; decide) (by rw [t_1_3]; decide) (by rw [t_1_3]; rfl) (by decide) ?_
    refine st_aload_n C (dk DX5_numberOfCell_0 20 rfl) rfl ?_
    refine st_get C fl_RX5_10 (dk DX5_numberOfCell_0 21 rfl) 0 rfl rfl ?_
    refine st_iload_n C (dk DX5_numberOfCell_0 22 rfl) rfl ?_
    refine st_cV C (k_X1_floorOf l G) mf_X1_floorOf mi_X1_floorOf ml_RX5_224 (dk DX5_numberOfCell_0 23 rfl) [1] rfl rfl rfl rfl (Nat.le_of_ble_eq_true rfl) rfl rfl ⟨Nat.le_of_ble_eq_true rfl, Nat.le_of_ble_eq_true rfl⟩ ⟨Nat.zero_le _, Nat.zero_le _⟩ (fun r9 w9 hq9 => ?_)
    obtain ⟨rfl, rfl⟩ := hq9
    show P _ _ _ _ _ [_, _, _, _, _, _, _, _, _]
    refine Rr 0 0 _ _ _ _ _ _ (Nat.zero_le _) (Nat.zero_le _) (dk DX5_numberOfCell_0 24 rfl) (.inr (.inl ⟨_, rfl, rfl, rfl, rfl⟩)) rfl ?_
    obtain rfl : w9 = 3 := (nI_eq (by omega) (by omega)).mp (show nI w9 = nI 3 from t_1_3)
    exact ⟨rfl, by rw [hC.floor hc, ofI3], rfl⟩
  by_cases t_1_4 : nI w9 = 4
  · refine st_tswIn C (off := 82) (tgt := 83) (dk DX5_numberOfCell_0 1 rfl) (by rw [t_1_4]; decide) (by rw [t_1_4]; decide) (by rw [t_1_4]; rfl) (by decide) ?_
    refine st_aload_n C (dk DX5_numberOfCell_0 25 rfl) rfl ?_
    refine st_get C fl_RX5_10 (dk DX5_numberOfCell_0 26 rfl) 0 rfl rfl ?_
    refine st_iload_n C (dk DX5_numberOfCell_0 27 rfl) rfl ?_
    refine st_cV C (k_X1_cellBelow l G) mf_X1_cellBelow mi_X1_cellBelow ml_RX5_227 (dk DX5_numberOfCell_0 28 rfl) [1, 3] rfl rfl rfl rfl (Nat.le_of_ble_eq_true rfl) rfl rfl ⟨Nat.le_of_ble_eq_true rfl, Nat.le_of_ble_eq_true rfl⟩ ⟨Nat.zero_le _, Nat.zero_le _⟩ (fun r9 w9 hq9 => ?_)
    obtain ⟨rfl, rfl⟩ := hq9
    show P _ _ _ _ _ [_, _, _, _, _, _, _, _, _]
    refine Rr 0 0 _ _ _ _ _ _ (Nat.zero_le _) (Nat.zero_le _) (dk DX5_numberOfCell_0 29 rfl) (.inr (.inl ⟨_, rfl, rfl, rfl, rfl⟩)) rfl ?_
    obtain rfl : w9 = 4 := (nI_eq (by omega) (by omega)).mp (show nI w9 = nI 4 from t_1_4)
    exact ⟨rfl, by rw [hC.below hc, ofI4], rfl⟩
  by_cases t_1_5 : nI w9 = 5
  · refine st_tswIn C (off := 91) (tgt := 92) (dk DX5_numberOfCell_0 1 rfl) (by rw [t_1_5]; decide) (by rw [t_1_5]; decide) (by rw [t_1_5]; rfl) (by decide) ?_
    refine st_aload_n C (dk DX5_numberOfCell_0 30 rfl) rfl ?_
    refine st_get C fl_RX5_10 (dk DX5_numberOfCell_0 31 rfl) 0 rfl rfl ?_
    refine st_iload_n C (dk DX5_numberOfCell_0 32 rfl) rfl ?_
    refine st_cV C (k_X1_cellAbove l G) mf_X1_cellAbove mi_X1_cellAbove ml_RX5_230 (dk DX5_numberOfCell_0 33 rfl) [1, 3] rfl rfl rfl rfl (Nat.le_of_ble_eq_true rfl) rfl rfl ⟨Nat.le_of_ble_eq_true rfl, Nat.le_of_ble_eq_true rfl⟩ ⟨Nat.zero_le _, Nat.zero_le _⟩ (fun r9 w9 hq9 => ?_)
    obtain ⟨rfl, rfl⟩ := hq9
    show P _ _ _ _ _ [_, _, _, _, _, _, _, _, _]
    refine Rr 0 0 _ _ _ _ _ _ (Nat.zero_le _) (Nat.zero_le _) (dk DX5_numberOfCell_0 34 rfl) (.inr (.inl ⟨_, rfl, rfl, rfl, rfl⟩)) rfl ?_
    obtain rfl : w9 = 5 := (nI_eq (by omega) (by omega)).mp (show nI w9 = nI 5 from t_1_5)
    exact ⟨rfl, by rw [hC.above hc, ofI5], rfl⟩
  refine st_tswOut C (tgt := 101) (dk DX5_numberOfCell_0 1 rfl) (tsw_out 6 (by decide) (by decide) (fun j hj => match j, hj with | 0, _ => t_1_0 | 1, _ => t_1_1 | 2, _ => t_1_2 | 3, _ => t_1_3 | 4, _ => t_1_4 | 5, _ => t_1_5)) (by decide) ?_
  refine st_aload_n C (dk DX5_numberOfCell_0 35 rfl) rfl ?_
  refine st_get C fl_RX5_29 (dk DX5_numberOfCell_0 36 rfl) 0 rfl rfl ?_
  refine st_iload_n C (dk DX5_numberOfCell_0 37 rfl) rfl ?_
  refine st_cV C (k_X3_lengthTo l G) mf_X3_lengthTo mi_X3_lengthTo ml_RX5_134 (dk DX5_numberOfCell_0 38 rfl) [4, 8] rfl rfl rfl rfl (Nat.le_of_ble_eq_true rfl) rfl rfl ⟨Nat.le_of_ble_eq_true rfl, Nat.le_of_ble_eq_true rfl⟩ ⟨Nat.zero_le _, Nat.zero_le _⟩ (fun r9 w9 hq9 => ?_)
  obtain ⟨rfl, rfl⟩ := hq9
  show P _ _ _ _ _ [_, _, _, _, _, _, _, _, _]
  refine Rr 0 0 _ _ _ _ _ _ (Nat.zero_le _) (Nat.zero_le _) (dk DX5_numberOfCell_0 39 rfl) (.inr (.inl ⟨_, rfl, rfl, rfl, rfl⟩)) rfl ?_
  obtain rfl : w9 = 6 := by
    have g0 : ¬ w9 = 0 := fun e => t_1_0 (by rw [e]; rfl)
    have g1 : ¬ w9 = 1 := fun e => t_1_1 (by rw [e]; rfl)
    have g2 : ¬ w9 = 2 := fun e => t_1_2 (by rw [e]; rfl)
    have g3 : ¬ w9 = 3 := fun e => t_1_3 (by rw [e]; rfl)
    have g4 : ¬ w9 = 4 := fun e => t_1_4 (by rw [e]; rfl)
    have g5 : ¬ w9 = 5 := fun e => t_1_5 (by rw [e]; rfl)
    omega
  refine ⟨rfl, ?_, rfl⟩
  unfold rLen
  rw [rIn_nI (n := 16) (m := 16) (by omega) (by decide) rfl, if_pos hc, if_neg (by decide), nI_clamp (by omega), (hS rfl).2.1 c hc, ofI6]
set_option maxHeartbeats 4000000 in
set_option maxRecDepth 100000 in
theorem k_X5_numberOfWalker (l : Launch) (G : wG) {K p q1 q2 o v t y : Nat} {s : mS} {ns lk ld : Nat → Int32} {z : Int32} {w9 : Nat} (hC : CRep s ns lk ld) (hz : z = nI w9) (hw : w9 ≤ 4) : Con0 l G yX5_numberOfWalker cX5_numberOfWalker 2 (some .int) 2 [.ref K, .int z] [(K, ob 4 (kF p o v t y)), (p, ob 0 (cR q1 q2 ns)), (q1, aI G 15 lk), (q2, aI G 16 ld)] (fun r w => r = some (.int (nI (s (1 + w9)))) ∧ w = [(K, ob 4 (kF p o v t y)), (p, ob 0 (cR q1 q2 ns)), (q1, aI G 15 lk), (q2, aI G 16 ld)]) := by
  refine Con.mk (by decide +kernel) (Nat.le_of_ble_eq_true rfl) (fun P C Rr => ?_)
  subst hz
  refine st_iload_n C (dk DX5_numberOfWalker_0 0 rfl) rfl ?_
  by_cases t_1_0 : nI w9 = 0
  · refine st_tswIn C (off := 31) (tgt := 32) (dk DX5_numberOfWalker_0 1 rfl) (by rw [t_1_0]; decide) (by rw [t_1_0]; decide) (by rw [t_1_0]; rfl) (by decide) ?_
    refine st_aload_n C (dk DX5_numberOfWalker_0 2 rfl) rfl ?_
    refine st_get C fl_RX5_10 (dk DX5_numberOfWalker_0 3 rfl) 0 rfl rfl ?_
    refine st_get C fl_RX5_78 (dk DX5_numberOfWalker_0 4 rfl) 1 rfl rfl ?_
    refine st_cS C (k_X0_cellOf l G) mf_X0_cellOf ms_X0_cellOf ml_RX5_109 (dk DX5_numberOfWalker_0 5 rfl) [] rfl rfl rfl rfl (Nat.le_of_ble_eq_true rfl) ⟨Nat.le_of_ble_eq_true rfl, Nat.le_of_ble_eq_true rfl⟩ ⟨Nat.zero_le _, Nat.zero_le _⟩ (fun r9 w9 hq9 => ?_)
    obtain ⟨rfl, rfl⟩ := hq9
    show P _ _ _ _ _ [_, _, _, _]
    refine Rr 0 0 _ _ _ _ _ _ (Nat.zero_le _) (Nat.zero_le _) (dk DX5_numberOfWalker_0 6 rfl) (.inr (.inl ⟨_, rfl, rfl, rfl, rfl⟩)) rfl ?_
    obtain rfl : w9 = 0 := (nI_eq (by omega) (by omega)).mp (show nI w9 = nI 0 from t_1_0)
    exact ⟨rfl, by rw [hC.co], rfl⟩
  by_cases t_1_1 : nI w9 = 1
  · refine st_tswIn C (off := 42) (tgt := 43) (dk DX5_numberOfWalker_0 1 rfl) (by rw [t_1_1]; decide) (by rw [t_1_1]; decide) (by rw [t_1_1]; rfl) (by decide) ?_
    refine st_aload_n C (dk DX5_numberOfWalker_0 7 rfl) rfl ?_
    refine st_get C fl_RX5_10 (dk DX5_numberOfWalker_0 8 rfl) 0 rfl rfl ?_
    refine st_aload_n C (dk DX5_numberOfWalker_0 9 rfl) rfl ?_
    refine st_get C fl_RX5_10 (dk DX5_numberOfWalker_0 10 rfl) 0 rfl rfl ?_
    refine st_get C fl_RX5_78 (dk DX5_numberOfWalker_0 11 rfl) 1 rfl rfl ?_
    refine st_bipush C (v := 16) (dk DX5_numberOfWalker_0 12 rfl) (by decide) ?_
    refine st_cV C (k_X1_bowIn l G) mf_X1_bowIn mi_X1_bowIn ml_RX5_82 (dk DX5_numberOfWalker_0 13 rfl) [1] rfl rfl rfl rfl (Nat.le_of_ble_eq_true rfl) rfl rfl ⟨Nat.le_of_ble_eq_true rfl, Nat.le_of_ble_eq_true rfl⟩ ⟨Nat.zero_le _, Nat.zero_le _⟩ (fun r9 w9 hq9 => ?_)
    obtain ⟨rfl, rfl⟩ := hq9
    show P _ _ _ _ _ [_, _, _, _]
    refine Rr 0 0 _ _ _ _ _ _ (Nat.zero_le _) (Nat.zero_le _) (dk DX5_numberOfWalker_0 14 rfl) (.inr (.inl ⟨_, rfl, rfl, rfl, rfl⟩)) rfl ?_
    obtain rfl : w9 = 1 := (nI_eq (by omega) (by omega)).mp (show nI w9 = nI 1 from t_1_1)
    exact ⟨rfl, by rw [hC.hand], rfl⟩
  by_cases t_1_2 : nI w9 = 2
  · refine st_tswIn C (off := 59) (tgt := 60) (dk DX5_numberOfWalker_0 1 rfl) (by rw [t_1_2]; decide) (by rw [t_1_2]; decide) (by rw [t_1_2]; rfl) (by decide) ?_
    refine st_aload_n C (dk DX5_numberOfWalker_0 15 rfl) rfl ?_
    refine st_get C fl_RX5_10 (dk DX5_numberOfWalker_0 16 rfl) 0 rfl rfl ?_
    refine st_get C fl_RX5_233 (dk DX5_numberOfWalker_0 17 rfl) 1 rfl rfl ?_
    refine Rr 0 0 _ _ _ _ _ _ (Nat.zero_le _) (Nat.zero_le _) (dk DX5_numberOfWalker_0 18 rfl) (.inr (.inl ⟨_, rfl, rfl, rfl, rfl⟩)) rfl ?_
    obtain rfl : w9 = 2 := (nI_eq (by omega) (by omega)).mp (show nI w9 = nI 2 from t_1_2)
    exact ⟨rfl, by rw [hC.2.2.2.1.2.1], rfl⟩
  by_cases t_1_3 : nI w9 = 3
  · refine st_tswIn C (off := 67) (tgt := 68) (dk DX5_numberOfWalker_0 1 rfl) (by rw [t_1_3]; decide) (by rw [t_1_3]; decide) (by rw [t_1_3]; rfl) (by decide) ?_
    refine st_aload_n C (dk DX5_numberOfWalker_0 19 rfl) rfl ?_
    refine st_get C fl_RX5_10 (dk DX5_numberOfWalker_0 20 rfl) 0 rfl rfl ?_
    refine st_get C fl_RX5_236 (dk DX5_numberOfWalker_0 21 rfl) 1 rfl rfl ?_
    refine Rr 0 0 _ _ _ _ _ _ (Nat.zero_le _) (Nat.zero_le _) (dk DX5_numberOfWalker_0 22 rfl) (.inr (.inl ⟨_, rfl, rfl, rfl, rfl⟩)) rfl ?_
    obtain rfl : w9 = 3 := (nI_eq (by omega) (by omega)).mp (show nI w9 = nI 3 from t_1_3)
    exact ⟨rfl, by rw [hC.2.2.2.1.2.2.1], rfl⟩
  refine st_tswOut C (tgt := 76) (dk DX5_numberOfWalker_0 1 rfl) (tsw_out 4 (by decide) (by decide) (fun j hj => match j, hj with | 0, _ => t_1_0 | 1, _ => t_1_1 | 2, _ => t_1_2 | 3, _ => t_1_3)) (by decide) ?_
  refine st_aload_n C (dk DX5_numberOfWalker_0 23 rfl) rfl ?_
  refine st_get C fl_RX5_10 (dk DX5_numberOfWalker_0 24 rfl) 0 rfl rfl ?_
  refine st_get C fl_RX5_239 (dk DX5_numberOfWalker_0 25 rfl) 1 rfl rfl ?_
  refine Rr 0 0 _ _ _ _ _ _ (Nat.zero_le _) (Nat.zero_le _) (dk DX5_numberOfWalker_0 26 rfl) (.inr (.inl ⟨_, rfl, rfl, rfl, rfl⟩)) rfl ?_
  obtain rfl : w9 = 4 := by
    have g0 : ¬ w9 = 0 := fun e => t_1_0 (by rw [e]; rfl)
    have g1 : ¬ w9 = 1 := fun e => t_1_1 (by rw [e]; rfl)
    have g2 : ¬ w9 = 2 := fun e => t_1_2 (by rw [e]; rfl)
    have g3 : ¬ w9 = 3 := fun e => t_1_3 (by rw [e]; rfl)
    omega
  exact ⟨rfl, by rw [hC.2.2.2.1.2.2.2], rfl⟩
set_option maxHeartbeats 4000000 in
set_option maxRecDepth 100000 in
theorem k_X5_numberInAll (l : Launch) (G : wG) {K p q1 q2 o v v1 t t1 t2 t3 t4 y : Nat} {s : mS} {ns lk ld : Nat → Int32} {zz rc : Int32} {en : Nat → Int32} {sn : Nat → Int64} {nd ln : Nat → Int32} {nx sz z : Int32} {k w9 : Nat} (hC : CRep s ns lk ld) (hsz : sz = nI k) (hz : z = nI w9) (hw : w9 ≤ 6) (hS : w9 = 3 ∨ w9 = 4 → SRx s rc en nd ln) : Con0 l G yX5_numberInAll cX5_numberInAll 2 (some .int) 3 [.ref K, .int z] [(K, ob 4 (kF p o v t y)), (p, ob 0 (cR q1 q2 ns)), (q1, aI G 15 lk), (q2, aI G 16 ld), (v, ob 1 (vF v1 nx sz)), (t, ob 2 (sF t1 t2 t3 t4 zz rc)), (t1, aI G 4624 en), (t2, aJ G 256 sn), (t3, aI G 16 nd), (t4, aI G 16 ln)] (fun r w => r = some (.int (coI s k w9)) ∧ w = [(K, ob 4 (kF p o v t y)), (p, ob 0 (cR q1 q2 ns)), (q1, aI G 15 lk), (q2, aI G 16 ld), (v, ob 1 (vF v1 nx sz)), (t, ob 2 (sF t1 t2 t3 t4 zz rc)), (t1, aI G 4624 en), (t2, aJ G 256 sn), (t3, aI G 16 nd), (t4, aI G 16 ln)]) := by
  refine Con.mk (by decide +kernel) (Nat.le_of_ble_eq_true rfl) (fun P C Rr => ?_)
  subst hz
  refine st_iload_n C (dk DX5_numberInAll_0 0 rfl) rfl ?_
  by_cases t_1_0 : nI w9 = 0
  · refine st_tswIn C (off := 39) (tgt := 40) (dk DX5_numberInAll_0 1 rfl) (by rw [t_1_0]; decide) (by rw [t_1_0]; decide) (by rw [t_1_0]; rfl) (by decide) ?_
    refine st_aload_n C (dk DX5_numberInAll_0 2 rfl) rfl ?_
    refine st_get C fl_RX5_10 (dk DX5_numberInAll_0 3 rfl) 0 rfl rfl ?_
    refine st_cV C (k_X1_keys l G) mf_X1_keys mi_X1_keys ml_RX5_86 (dk DX5_numberInAll_0 4 rfl) [1] rfl rfl rfl rfl (Nat.le_of_ble_eq_true rfl) rfl rfl ⟨Nat.le_of_ble_eq_true rfl, Nat.le_of_ble_eq_true rfl⟩ ⟨Nat.zero_le _, Nat.zero_le _⟩ (fun r9 w9 hq9 => ?_)
    obtain ⟨rfl, rfl⟩ := hq9
    show P _ _ _ _ _ [_, _, _, _, _, _, _, _, _, _]
    refine Rr 0 0 _ _ _ _ _ _ (Nat.zero_le _) (Nat.zero_le _) (dk DX5_numberInAll_0 5 rfl) (.inr (.inl ⟨_, rfl, rfl, rfl, rfl⟩)) rfl ?_
    obtain rfl : w9 = 0 := (nI_eq (by omega) (by omega)).mp (show nI w9 = nI 0 from t_1_0)
    exact ⟨rfl, by rw [hC.keys.1, coI0], rfl⟩
  by_cases t_1_1 : nI w9 = 1
  · refine st_tswIn C (off := 47) (tgt := 48) (dk DX5_numberInAll_0 1 rfl) (by rw [t_1_1]; decide) (by rw [t_1_1]; decide) (by rw [t_1_1]; rfl) (by decide) ?_
    refine st_aload_n C (dk DX5_numberInAll_0 6 rfl) rfl ?_
    refine st_get C fl_RX5_10 (dk DX5_numberInAll_0 7 rfl) 0 rfl rfl ?_
    refine st_cV C (k_X1_doors l G) mf_X1_doors mi_X1_doors ml_RX5_242 (dk DX5_numberInAll_0 8 rfl) [1, 2] rfl rfl rfl rfl (Nat.le_of_ble_eq_true rfl) rfl rfl ⟨Nat.le_of_ble_eq_true rfl, Nat.le_of_ble_eq_true rfl⟩ ⟨Nat.zero_le _, Nat.zero_le _⟩ (fun r9 w9 hq9 => ?_)
    obtain ⟨rfl, rfl⟩ := hq9
    show P _ _ _ _ _ [_, _, _, _, _, _, _, _, _, _]
    refine Rr 0 0 _ _ _ _ _ _ (Nat.zero_le _) (Nat.zero_le _) (dk DX5_numberInAll_0 9 rfl) (.inr (.inl ⟨_, rfl, rfl, rfl, rfl⟩)) rfl ?_
    obtain rfl : w9 = 1 := (nI_eq (by omega) (by omega)).mp (show nI w9 = nI 1 from t_1_1)
    exact ⟨rfl, by rw [hC.doors 15 (Nat.le_refl _), coI1], rfl⟩
  by_cases t_1_2 : nI w9 = 2
  · refine st_tswIn C (off := 55) (tgt := 56) (dk DX5_numberInAll_0 1 rfl) (by rw [t_1_2]; decide) (by rw [t_1_2]; decide) (by rw [t_1_2]; rfl) (by decide) ?_
    refine st_aload_n C (dk DX5_numberInAll_0 10 rfl) rfl ?_
    refine st_get C fl_RX5_10 (dk DX5_numberInAll_0 11 rfl) 0 rfl rfl ?_
    refine st_cV C (k_X1_laddersBetween l G) mf_X1_laddersBetween mi_X1_laddersBetween ml_RX5_245 (dk DX5_numberInAll_0 12 rfl) [1, 3] rfl rfl rfl rfl (Nat.le_of_ble_eq_true rfl) rfl rfl ⟨Nat.le_of_ble_eq_true rfl, Nat.le_of_ble_eq_true rfl⟩ ⟨Nat.zero_le _, Nat.zero_le _⟩ (fun r9 w9 hq9 => ?_)
    obtain ⟨rfl, rfl⟩ := hq9
    show P _ _ _ _ _ [_, _, _, _, _, _, _, _, _, _]
    refine Rr 0 0 _ _ _ _ _ _ (Nat.zero_le _) (Nat.zero_le _) (dk DX5_numberInAll_0 13 rfl) (.inr (.inl ⟨_, rfl, rfl, rfl, rfl⟩)) rfl ?_
    obtain rfl : w9 = 2 := (nI_eq (by omega) (by omega)).mp (show nI w9 = nI 2 from t_1_2)
    exact ⟨rfl, by rw [hC.lads 16 (Nat.le_refl _), coI2], rfl⟩
  by_cases t_1_3 : nI w9 = 3
  · refine st_tswIn C (off := 63) (tgt := 64) (dk DX5_numberInAll_0 1 rfl) (by rw [t_1_3]; decide) (by rw [t_1_3]; decide) (by rw [t_1_3]; rfl) (by decide) ?_
    refine st_aload_n C (dk DX5_numberInAll_0 14 rfl) rfl ?_
    refine st_get C fl_RX5_29 (dk DX5_numberInAll_0 15 rfl) 0 rfl rfl ?_
    refine st_get C fl_RX5_193 (dk DX5_numberInAll_0 16 rfl) 5 rfl rfl ?_
    refine Rr 0 0 _ _ _ _ _ _ (Nat.zero_le _) (Nat.zero_le _) (dk DX5_numberInAll_0 17 rfl) (.inr (.inl ⟨_, rfl, rfl, rfl, rfl⟩)) rfl ?_
    obtain rfl : w9 = 3 := (nI_eq (by omega) (by omega)).mp (show nI w9 = nI 3 from t_1_3)
    exact ⟨rfl, by rw [(hS (Or.inl rfl)).1, coI3], rfl⟩
  by_cases t_1_4 : nI w9 = 4
  · refine st_tswIn C (off := 71) (tgt := 72) (dk DX5_numberInAll_0 1 rfl) (by rw [t_1_4]; decide) (by rw [t_1_4]; decide) (by rw [t_1_4]; rfl) (by decide) ?_
    refine st_aload_n C (dk DX5_numberInAll_0 18 rfl) rfl ?_
    refine st_get C fl_RX5_29 (dk DX5_numberInAll_0 19 rfl) 0 rfl rfl ?_
    refine st_cV C (k_X3_mostLength l G) mf_X3_mostLength mi_X3_mostLength ml_RX5_248 (dk DX5_numberInAll_0 20 rfl) [5, 9] rfl rfl rfl rfl (Nat.le_of_ble_eq_true rfl) rfl rfl ⟨Nat.le_of_ble_eq_true rfl, Nat.le_of_ble_eq_true rfl⟩ ⟨Nat.zero_le _, Nat.zero_le _⟩ (fun r9 w9 hq9 => ?_)
    obtain ⟨rfl, rfl⟩ := hq9
    show P _ _ _ _ _ [_, _, _, _, _, _, _, _, _, _]
    refine Rr 0 0 _ _ _ _ _ _ (Nat.zero_le _) (Nat.zero_le _) (dk DX5_numberInAll_0 21 rfl) (.inr (.inl ⟨_, rfl, rfl, rfl, rfl⟩)) rfl ?_
    obtain rfl : w9 = 4 := (nI_eq (by omega) (by omega)).mp (show nI w9 = nI 4 from t_1_4)
    exact ⟨rfl, by rw [(hS (Or.inr rfl)).most 16 (Nat.le_refl _), coI4], rfl⟩
  by_cases t_1_5 : nI w9 = 5
  · refine st_tswIn C (off := 79) (tgt := 80) (dk DX5_numberInAll_0 1 rfl) (by rw [t_1_5]; decide) (by rw [t_1_5]; decide) (by rw [t_1_5]; rfl) (by decide) ?_
    refine st_aload_n C (dk DX5_numberInAll_0 22 rfl) rfl ?_
    refine st_get C fl_RX5_10 (dk DX5_numberInAll_0 23 rfl) 0 rfl rfl ?_
    refine st_get C fl_RX5_106 (dk DX5_numberInAll_0 24 rfl) 1 rfl rfl ?_
    refine Rr 0 0 _ _ _ _ _ _ (Nat.zero_le _) (Nat.zero_le _) (dk DX5_numberInAll_0 25 rfl) (.inr (.inl ⟨_, rfl, rfl, rfl, rfl⟩)) rfl ?_
    obtain rfl : w9 = 5 := (nI_eq (by omega) (by omega)).mp (show nI w9 = nI 5 from t_1_5)
    exact ⟨rfl, by rw [hC.2.2.2.1.1, coI5], rfl⟩
  refine st_tswOut C (tgt := 88) (dk DX5_numberInAll_0 1 rfl) (tsw_out 6 (by decide) (by decide) (fun j hj => match j, hj with | 0, _ => t_1_0 | 1, _ => t_1_1 | 2, _ => t_1_2 | 3, _ => t_1_3 | 4, _ => t_1_4 | 5, _ => t_1_5)) (by decide) ?_
  refine st_aload_n C (dk DX5_numberInAll_0 26 rfl) rfl ?_
  refine st_get C fl_RX5_22 (dk DX5_numberInAll_0 27 rfl) 0 rfl rfl ?_
  refine st_get C fl_RX5_161 (dk DX5_numberInAll_0 28 rfl) 4 rfl rfl ?_
  refine Rr 0 0 _ _ _ _ _ _ (Nat.zero_le _) (Nat.zero_le _) (dk DX5_numberInAll_0 29 rfl) (.inr (.inl ⟨_, rfl, rfl, rfl, rfl⟩)) rfl ?_
  obtain rfl : w9 = 6 := by
    have g0 : ¬ w9 = 0 := fun e => t_1_0 (by rw [e]; rfl)
    have g1 : ¬ w9 = 1 := fun e => t_1_1 (by rw [e]; rfl)
    have g2 : ¬ w9 = 2 := fun e => t_1_2 (by rw [e]; rfl)
    have g3 : ¬ w9 = 3 := fun e => t_1_3 (by rw [e]; rfl)
    have g4 : ¬ w9 = 4 := fun e => t_1_4 (by rw [e]; rfl)
    have g5 : ¬ w9 = 5 := fun e => t_1_5 (by rw [e]; rfl)
    omega
  exact ⟨rfl, by rw [hsz, coI6], rfl⟩
