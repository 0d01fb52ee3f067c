/-! contracts of the corridor's loops -/
set_option maxHeartbeats 4000000 in
set_option maxRecDepth 100000 in
theorem k_X1_doors (l : Launch) (G : wG) {p q1 q2 : Nat} {fb sb co le sp sw dp : Int32} {lk : Nat → Int32} : Con0 l G yX1_doors cX1_doors 3 (some .int) 0 [.ref p] [(p, ob 0 (cF q1 q2 fb sb co le sp sw dp)), (q1, aI G 15 lk)] (fun r w => r = some (.int (rDoors lk 15)) ∧ w = [(p, ob 0 (cF q1 q2 fb sb co le sp sw dp)), (q1, aI G 15 lk)]) := by
  refine Con.mk (by decide +kernel) (Nat.le_of_ble_eq_true rfl) (fun P C Rr => ?_)
  have loop : ∀ (m i : Nat) (acc x : Int32), i + m = 15 → x = nI i → acc = rDoors lk i → P 0 0 4 [(0, .ref p), (1, .int acc), (2, .int x)] [] [(p, ob 0 (cF q1 q2 fb sb co le sp sw dp)), (q1, aI G 15 lk)] := by
    intro m
    induction m with
    | zero =>
      intro i acc x hi hx hacc
      obtain rfl : i = 15 := by omega
      refine st_iload_n C (dk DX1_doors_0 4 rfl) rfl ?_
      refine st_bipush C (v := 15) (dk DX1_doors_0 5 rfl) (by decide) ?_
      refine st_icmp_ge C (tgt := 28) (dk DX1_doors_0 6 rfl) (by decide) (fun c_7 => ?_) (fun c_7 => ?_)
      · refine st_iload_n C (dk DX1_doors_0 15 rfl) rfl ?_
        exact Rr 0 0 _ _ _ _ _ _ (Nat.zero_le _) (Nat.zero_le _) (dk DX1_doors_0 16 rfl) (.inr (.inl ⟨_, rfl, rfl, rfl, rfl⟩)) rfl ⟨rfl, ⟨by rw [hacc], rfl⟩⟩
      · exact absurd ((ge_nI (a := 15) (i := 15) (by decide) (by decide) rfl hx).mpr (Nat.le_refl _)) c_7
    | succ m ih =>
      intro i acc x hi hx hacc
      refine st_iload_n C (dk DX1_doors_0 4 rfl) rfl ?_
      refine st_bipush C (v := 15) (dk DX1_doors_0 5 rfl) (by decide) ?_
      refine st_icmp_ge C (tgt := 28) (dk DX1_doors_0 6 rfl) (by decide) (fun c_7 => ?_) (fun c_7 => ?_)
      · exact absurd ((ge_nI (a := 15) (i := i) (by decide) (by omega) rfl hx).mp c_7) (by omega)
      · refine st_aload_n C (dk DX1_doors_0 7 rfl) rfl ?_
        refine st_get C fl_RX1_9 (dk DX1_doors_0 8 rfl) 0 rfl rfl ?_
        refine st_iload_n C (dk DX1_doors_0 9 rfl) rfl ?_
        refine st_iald C (dk DX1_doors_0 10 rfl) 1 rfl (vp_nI hx (by omega : i < 15) (by decide)) ?_
        refine st_if_eq C (tgt := 22) (dk DX1_doors_0 11 rfl) (by decide) (fun c_16 => ?_) (fun c_16 => ?_)
        · refine st_iinc C (dk DX1_doors_0 13 rfl) rfl (iadd_ofInt _ (1) (1) (by decide)) (by decide) rfl ?_
          refine st_goto C (tgt := 4) (dk DX1_doors_0 14 rfl) (by decide) ?_
          exact ih (i + 1) _ _ (by omega) (up_nI hx) (by rw [hacc]; rw [cl_nI hx (by omega)] at c_16; simp [rDoors, c_16])
        · refine st_iinc C (dk DX1_doors_0 12 rfl) rfl (iadd_ofInt _ (1) (1) (by decide)) (by decide) rfl ?_
          refine st_iinc C (dk DX1_doors_0 13 rfl) rfl (iadd_ofInt _ (1) (1) (by decide)) (by decide) rfl ?_
          refine st_goto C (tgt := 4) (dk DX1_doors_0 14 rfl) (by decide) ?_
          exact ih (i + 1) _ _ (by omega) (up_nI hx) (by rw [hacc]; rw [cl_nI hx (by omega)] at c_16; simp [rDoors, c_16])
  refine st_iconst C (v := 0) (dk DX1_doors_0 0 rfl) (by decide) ?_
  refine st_istore_n C (dk DX1_doors_0 1 rfl) (by decide) rfl ?_
  refine st_iconst C (v := 0) (dk DX1_doors_0 2 rfl) (by decide) ?_
  refine st_istore_n C (dk DX1_doors_0 3 rfl) (by decide) rfl ?_
  exact loop 15 0 _ _ (by omega) (by decide) rfl
set_option maxHeartbeats 4000000 in
set_option maxRecDepth 100000 in
theorem k_X1_laddersBetween (l : Launch) (G : wG) {p q1 q2 : Nat} {fb sb co le sp sw dp : Int32} {ld : Nat → Int32} : Con0 l G yX1_laddersBetween cX1_laddersBetween 3 (some .int) 2 [.ref p] [(p, ob 0 (cF q1 q2 fb sb co le sp sw dp)), (q2, aI G 16 ld)] (fun r w => r = some (.int (rLads ld le 16)) ∧ w = [(p, ob 0 (cF q1 q2 fb sb co le sp sw dp)), (q2, aI G 16 ld)]) := by
  refine Con.mk (by decide +kernel) (Nat.le_of_ble_eq_true rfl) (fun P C Rr => ?_)
  have loop : ∀ (m i : Nat) (acc x : Int32), i + m = 16 → x = nI i → acc = rLads ld le i → P 0 0 4 [(0, .ref p), (1, .int acc), (2, .int x)] [] [(p, ob 0 (cF q1 q2 fb sb co le sp sw dp)), (q2, aI G 16 ld)] := by
    intro m
    induction m with
    | zero =>
      intro i acc x hi hx hacc
      obtain rfl : i = 16 := by omega
      refine st_iload_n C (dk DX1_laddersBetween_0 4 rfl) rfl ?_
      refine st_bipush C (v := 16) (dk DX1_laddersBetween_0 5 rfl) (by decide) ?_
      refine st_icmp_ge C (tgt := 28) (dk DX1_laddersBetween_0 6 rfl) (by decide) (fun c_7 => ?_) (fun c_7 => ?_)
      · refine st_iload_n C (dk DX1_laddersBetween_0 15 rfl) rfl ?_
        exact Rr 0 0 _ _ _ _ _ _ (Nat.zero_le _) (Nat.zero_le _) (dk DX1_laddersBetween_0 16 rfl) (.inr (.inl ⟨_, rfl, rfl, rfl, rfl⟩)) rfl ⟨rfl, ⟨by rw [hacc], rfl⟩⟩
      · exact absurd ((ge_nI (a := 16) (i := 16) (by decide) (by decide) rfl hx).mpr (Nat.le_refl _)) c_7
    | succ m ih =>
      intro i acc x hi hx hacc
      refine st_iload_n C (dk DX1_laddersBetween_0 4 rfl) rfl ?_
      refine st_bipush C (v := 16) (dk DX1_laddersBetween_0 5 rfl) (by decide) ?_
      refine st_icmp_ge C (tgt := 28) (dk DX1_laddersBetween_0 6 rfl) (by decide) (fun c_7 => ?_) (fun c_7 => ?_)
      · exact absurd ((ge_nI (a := 16) (i := i) (by decide) (by omega) rfl hx).mp c_7) (by omega)
      · refine st_aload_n C (dk DX1_laddersBetween_0 7 rfl) rfl ?_
        refine st_iload_n C (dk DX1_laddersBetween_0 8 rfl) rfl ?_
        refine st_cV C (k_X1_cellAbove l G) mf_X1_cellAbove mi_X1_cellAbove ml_RX1_63 (dk DX1_laddersBetween_0 9 rfl) [0, 1] rfl rfl rfl rfl (Nat.le_of_ble_eq_true rfl) rfl rfl ⟨Nat.le_of_ble_eq_true rfl, Nat.le_of_ble_eq_true rfl⟩ ⟨Nat.zero_le _, Nat.zero_le _⟩ (fun r9 w9 hq9 => ?_)
        obtain ⟨rfl, rfl⟩ := hq9
        refine st_iconst C (v := -1) (dk DX1_laddersBetween_0 10 rfl) (by decide) ?_
        refine st_icmp_eq C (tgt := 22) (dk DX1_laddersBetween_0 11 rfl) (by decide) (fun c_16 => ?_) (fun c_16 => ?_)
        · refine st_iinc C (dk DX1_laddersBetween_0 13 rfl) rfl (iadd_ofInt _ (1) (1) (by decide)) (by decide) rfl ?_
          refine st_goto C (tgt := 4) (dk DX1_laddersBetween_0 14 rfl) (by decide) ?_
          exact ih (i + 1) _ _ (by omega) (up_nI hx) (by rw [hacc]; rw [hx] at c_16; simp [rLads, c_16])
        · refine st_iinc C (dk DX1_laddersBetween_0 12 rfl) rfl (iadd_ofInt _ (1) (1) (by decide)) (by decide) rfl ?_
          refine st_iinc C (dk DX1_laddersBetween_0 13 rfl) rfl (iadd_ofInt _ (1) (1) (by decide)) (by decide) rfl ?_
          refine st_goto C (tgt := 4) (dk DX1_laddersBetween_0 14 rfl) (by decide) ?_
          exact ih (i + 1) _ _ (by omega) (up_nI hx) (by rw [hacc]; rw [hx] at c_16; simp [rLads, c_16])
  refine st_iconst C (v := 0) (dk DX1_laddersBetween_0 0 rfl) (by decide) ?_
  refine st_istore_n C (dk DX1_laddersBetween_0 1 rfl) (by decide) rfl ?_
  refine st_iconst C (v := 0) (dk DX1_laddersBetween_0 2 rfl) (by decide) ?_
  refine st_istore_n C (dk DX1_laddersBetween_0 3 rfl) (by decide) rfl ?_
  exact loop 16 0 _ _ (by omega) (by decide) rfl
set_option maxHeartbeats 4000000 in
set_option maxRecDepth 100000 in
theorem k_X1_copyFrom (l : Launch) (G : wG) {p q1 q2 r r1 r2 : Nat} {fb sb co le sp sw dp fb2 sb2 co2 le2 sp2 sw2 dp2 : Int32} {lk ld lk2 ld2 : Nat → Int32} : Con0 l G yX1_copyFrom cX1_copyFrom 3 none 0 [.ref p, .ref r] [(p, ob 0 (cF q1 q2 fb sb co le sp sw dp)), (q1, aI G 15 lk), (q2, aI G 16 ld), (r, ob 0 (cF r1 r2 fb2 sb2 co2 le2 sp2 sw2 dp2)), (r1, aI G 15 lk2), (r2, aI G 16 ld2)] (fun v w => v = none ∧ ∃ lk3 ld3 : Nat → Int32, (∀ j, j < 15 → lk3 j = lk2 j) ∧ (∀ j, j < 16 → ld3 j = ld2 j) ∧ w = [(p, ob 0 (cF q1 q2 fb2 sb2 co2 le2 sp2 sw2 dp2)), (q1, aI G 15 lk3), (q2, aI G 16 ld3), (r, ob 0 (cF r1 r2 fb2 sb2 co2 le2 sp2 sw2 dp2)), (r1, aI G 15 lk2), (r2, aI G 16 ld2)]) := by
  refine Con.mk (by decide +kernel) (Nat.le_of_ble_eq_true rfl) (fun P C Rr => ?_)
  have K52 : ∀ (x : Int32) (lk ld : Nat → Int32), (∀ j, j < 15 → lk j = lk2 j) → (∀ j, j < 16 → ld j = ld2 j) → P 0 0 52 [(0, .ref p), (1, .ref r), (2, .int x)] [] [(p, ob 0 (cF q1 q2 fb sb co le sp sw dp)), (q1, aI G 15 lk), (q2, aI G 16 ld), (r, ob 0 (cF r1 r2 fb2 sb2 co2 le2 sp2 sw2 dp2)), (r1, aI G 15 lk2), (r2, aI G 16 ld2)] := by
    intro x lk ld hlk hld
    refine st_aload_n C (dk DX1_copyFrom_0 30 rfl) rfl ?_
    refine st_aload_n C (dk DX1_copyFrom_0 31 rfl) rfl ?_
    refine st_get C fl_RX1_31 (dk DX1_copyFrom_0 32 rfl) 3 rfl rfl ?_
    refine st_put C fl_RX1_31 fc_0 fw_0_2 (dk DX1_copyFrom_0 33 rfl) 0 rfl rfl rfl (Nat.le_of_ble_eq_true rfl) ?_
    refine st_aload_n C (dk DX1_copyFrom_0 34 rfl) rfl ?_
    refine st_aload_n C (dk DX1_copyFrom_0 35 rfl) rfl ?_
    refine st_get C fl_RX1_34 (dk DX1_copyFrom_0 36 rfl) 3 rfl rfl ?_
    refine st_put C fl_RX1_34 fc_0 fw_0_3 (dk DX1_copyFrom_0 37 rfl) 0 rfl rfl rfl (Nat.le_of_ble_eq_true rfl) ?_
    refine st_aload_n C (dk DX1_copyFrom_0 38 rfl) rfl ?_
    refine st_aload_n C (dk DX1_copyFrom_0 39 rfl) rfl ?_
    refine st_get C fl_RX1_24 (dk DX1_copyFrom_1 0 rfl) 3 rfl rfl ?_
    refine st_put C fl_RX1_24 fc_0 fw_0_4 (dk DX1_copyFrom_1 1 rfl) 0 rfl rfl rfl (Nat.le_of_ble_eq_true rfl) ?_
    refine st_aload_n C (dk DX1_copyFrom_1 2 rfl) rfl ?_
    refine st_aload_n C (dk DX1_copyFrom_1 3 rfl) rfl ?_
    refine st_get C fl_RX1_28 (dk DX1_copyFrom_1 4 rfl) 3 rfl rfl ?_
    refine st_put C fl_RX1_28 fc_0 fw_0_5 (dk DX1_copyFrom_1 5 rfl) 0 rfl rfl rfl (Nat.le_of_ble_eq_true rfl) ?_
    refine st_aload_n C (dk DX1_copyFrom_1 6 rfl) rfl ?_
    refine st_aload_n C (dk DX1_copyFrom_1 7 rfl) rfl ?_
    refine st_get C fl_RX1_37 (dk DX1_copyFrom_1 8 rfl) 3 rfl rfl ?_
    refine st_put C fl_RX1_37 fc_0 fw_0_6 (dk DX1_copyFrom_1 9 rfl) 0 rfl rfl rfl (Nat.le_of_ble_eq_true rfl) ?_
    refine st_aload_n C (dk DX1_copyFrom_1 10 rfl) rfl ?_
    refine st_aload_n C (dk DX1_copyFrom_1 11 rfl) rfl ?_
    refine st_get C fl_RX1_40 (dk DX1_copyFrom_1 12 rfl) 3 rfl rfl ?_
    refine st_put C fl_RX1_40 fc_0 fw_0_7 (dk DX1_copyFrom_1 13 rfl) 0 rfl rfl rfl (Nat.le_of_ble_eq_true rfl) ?_
    refine st_aload_n C (dk DX1_copyFrom_1 14 rfl) rfl ?_
    refine st_aload_n C (dk DX1_copyFrom_1 15 rfl) rfl ?_
    refine st_get C fl_RX1_43 (dk DX1_copyFrom_1 16 rfl) 3 rfl rfl ?_
    refine st_put C fl_RX1_43 fc_0 fw_0_8 (dk DX1_copyFrom_1 17 rfl) 0 rfl rfl rfl (Nat.le_of_ble_eq_true rfl) ?_
    exact Rr 0 0 _ _ _ _ _ _ (Nat.zero_le _) (Nat.zero_le _) (dk DX1_copyFrom_1 18 rfl) (.inl ⟨rfl, rfl, rfl, rfl⟩) rfl ⟨rfl, ⟨rfl, lk, ld, hlk, hld, rfl⟩⟩
  have loop2 : ∀ (lk : Nat → Int32) (hlk : ∀ j, j < 15 → lk j = lk2 j) (m i : Nat) (x : Int32) (ld : Nat → Int32), i + m = 16 → x = nI i → (∀ j, j < i → ld j = ld2 j) → P 0 0 28 [(0, .ref p), (1, .ref r), (2, .int x)] [] [(p, ob 0 (cF q1 q2 fb sb co le sp sw dp)), (q1, aI G 15 lk), (q2, aI G 16 ld), (r, ob 0 (cF r1 r2 fb2 sb2 co2 le2 sp2 sw2 dp2)), (r1, aI G 15 lk2), (r2, aI G 16 ld2)] := by
    intro lk hlk m
    induction m with
    | zero =>
      intro i x ld hi hx hf
      obtain rfl : i = 16 := by omega
      refine st_iload_n C (dk DX1_copyFrom_0 17 rfl) rfl ?_
      refine st_bipush C (v := 16) (dk DX1_copyFrom_0 18 rfl) (by decide) ?_
      refine st_icmp_ge C (tgt := 52) (dk DX1_copyFrom_0 19 rfl) (by decide) (fun c_31 => ?_) (fun c_31 => ?_)
      · exact K52 _ _ _ hlk hf
      · exact absurd ((ge_nI (a := 16) (i := 16) (by decide) (by decide) rfl hx).mpr (Nat.le_refl _)) c_31
    | succ m ih =>
      intro i x ld hi hx hf
      refine st_iload_n C (dk DX1_copyFrom_0 17 rfl) rfl ?_
      refine st_bipush C (v := 16) (dk DX1_copyFrom_0 18 rfl) (by decide) ?_
      refine st_icmp_ge C (tgt := 52) (dk DX1_copyFrom_0 19 rfl) (by decide) (fun c_31 => ?_) (fun c_31 => ?_)
      · exact absurd ((ge_nI (a := 16) (i := i) (by decide) (by omega) rfl hx).mp c_31) (by omega)
      · refine st_aload_n C (dk DX1_copyFrom_0 20 rfl) rfl ?_
        refine st_get C fl_RX1_15 (dk DX1_copyFrom_0 21 rfl) 0 rfl rfl ?_
        refine st_iload_n C (dk DX1_copyFrom_0 22 rfl) rfl ?_
        refine st_aload_n C (dk DX1_copyFrom_0 23 rfl) rfl ?_
        refine st_get C fl_RX1_15 (dk DX1_copyFrom_0 24 rfl) 3 rfl rfl ?_
        refine st_iload_n C (dk DX1_copyFrom_0 25 rfl) rfl ?_
        refine st_iald C (dk DX1_copyFrom_0 26 rfl) 5 rfl (vp_nI hx (by omega : i < 16) (by decide)) ?_
        refine st_iast C (dk DX1_copyFrom_0 27 rfl) 2 rfl (vp_nI hx (by omega : i < 16) (by decide)) ?_
        refine st_iinc C (dk DX1_copyFrom_0 28 rfl) rfl (iadd_ofInt _ (1) (1) (by decide)) (by decide) rfl ?_
        refine st_goto C (tgt := 28) (dk DX1_copyFrom_0 29 rfl) (by decide) ?_
        exact ih (i + 1) _ _ (by omega) (up_nI hx) (upd_cp hx (by omega) hf)
  have loop1 : ∀  (m i : Nat) (x : Int32) (lk : Nat → Int32), i + m = 15 → x = nI i → (∀ j, j < i → lk j = lk2 j) → P 0 0 2 [(0, .ref p), (1, .ref r), (2, .int x)] [] [(p, ob 0 (cF q1 q2 fb sb co le sp sw dp)), (q1, aI G 15 lk), (q2, aI G 16 ld), (r, ob 0 (cF r1 r2 fb2 sb2 co2 le2 sp2 sw2 dp2)), (r1, aI G 15 lk2), (r2, aI G 16 ld2)] := by
    intro m
    induction m with
    | zero =>
      intro i x lk hi hx hf
      obtain rfl : i = 15 := by omega
      refine st_iload_n C (dk DX1_copyFrom_0 2 rfl) rfl ?_
      refine st_bipush C (v := 15) (dk DX1_copyFrom_0 3 rfl) (by decide) ?_
      refine st_icmp_ge C (tgt := 26) (dk DX1_copyFrom_0 4 rfl) (by decide) (fun c_5 => ?_) (fun c_5 => ?_)
      refine st_iconst C (v := 0) (dk DX1_copyFrom_0 15 rfl) (by decide) ?_
      refine st_istore_n C (dk DX1_copyFrom_0 16 rfl) (by decide) rfl ?_
      exact loop2 lk hf 16 0 _ ld (by omega) (by decide) (fun j hj => absurd hj (Nat.not_lt_zero j))
      · exact absurd ((ge_nI (a := 15) (i := 15) (by decide) (by decide) rfl hx).mpr (Nat.le_refl _)) c_5
    | succ m ih =>
      intro i x lk hi hx hf
      refine st_iload_n C (dk DX1_copyFrom_0 2 rfl) rfl ?_
      refine st_bipush C (v := 15) (dk DX1_copyFrom_0 3 rfl) (by decide) ?_
      refine st_icmp_ge C (tgt := 26) (dk DX1_copyFrom_0 4 rfl) (by decide) (fun c_5 => ?_) (fun c_5 => ?_)
      · exact absurd ((ge_nI (a := 15) (i := i) (by decide) (by omega) rfl hx).mp c_5) (by omega)
      · refine st_aload_n C (dk DX1_copyFrom_0 5 rfl) rfl ?_
        refine st_get C fl_RX1_9 (dk DX1_copyFrom_0 6 rfl) 0 rfl rfl ?_
        refine st_iload_n C (dk DX1_copyFrom_0 7 rfl) rfl ?_
        refine st_aload_n C (dk DX1_copyFrom_0 8 rfl) rfl ?_
        refine st_get C fl_RX1_9 (dk DX1_copyFrom_0 9 rfl) 3 rfl rfl ?_
        refine st_iload_n C (dk DX1_copyFrom_0 10 rfl) rfl ?_
        refine st_iald C (dk DX1_copyFrom_0 11 rfl) 4 rfl (vp_nI hx (by omega : i < 15) (by decide)) ?_
        refine st_iast C (dk DX1_copyFrom_0 12 rfl) 1 rfl (vp_nI hx (by omega : i < 15) (by decide)) ?_
        refine st_iinc C (dk DX1_copyFrom_0 13 rfl) rfl (iadd_ofInt _ (1) (1) (by decide)) (by decide) rfl ?_
        refine st_goto C (tgt := 2) (dk DX1_copyFrom_0 14 rfl) (by decide) ?_
        exact ih (i + 1) _ _ (by omega) (up_nI hx) (upd_cp hx (by omega) hf)
  refine st_iconst C (v := 0) (dk DX1_copyFrom_0 0 rfl) (by decide) ?_
  refine st_istore_n C (dk DX1_copyFrom_0 1 rfl) (by decide) rfl ?_
  exact loop1 15 0 _ lk (by omega) (by decide) (fun j hj => absurd hj (Nat.not_lt_zero j))
set_option maxHeartbeats 4000000 in
set_option maxRecDepth 100000 in
theorem k_X1_clear (l : Launch) (G : wG) {p q1 q2 : Nat} {fb sb co le sp sw dp : Int32} {lk ld : Nat → Int32} : Con0 l G yX1_clear cX1_clear 2 none 1 [.ref p] [(p, ob 0 (cF q1 q2 fb sb co le sp sw dp)), (q1, aI G 15 lk), (q2, aI G 16 ld)] (fun v w => v = none ∧ ∃ lk3 ld3 : Nat → Int32, (∀ j, j < 15 → lk3 j = 0) ∧ (∀ j, j < 16 → ld3 j = 0) ∧ w = [(p, ob 0 (cF q1 q2 0 0 (rOf 0 17 17) le sp sw dp)), (q1, aI G 15 lk3), (q2, aI G 16 ld3)]) := by
  refine Con.mk (by decide +kernel) (Nat.le_of_ble_eq_true rfl) (fun P C Rr => ?_)
  have K42 : ∀ (x : Int32) (lk ld : Nat → Int32), (∀ j, j < 15 → lk j = 0) → (∀ j, j < 16 → ld j = 0) → P 0 0 42 [(0, .ref p), (1, .int x)] [] [(p, ob 0 (cF q1 q2 fb sb co le sp sw dp)), (q1, aI G 15 lk), (q2, aI G 16 ld)] := by
    intro x lk ld hlk hld
    refine st_aload_n C (dk DX1_clear_0 24 rfl) rfl ?_
    refine st_iconst C (v := 0) (dk DX1_clear_0 25 rfl) (by decide) ?_
    refine st_put C fl_RX1_31 fc_0 fw_0_2 (dk DX1_clear_0 26 rfl) 0 rfl rfl rfl (Nat.le_of_ble_eq_true rfl) ?_
    refine st_aload_n C (dk DX1_clear_0 27 rfl) rfl ?_
    refine st_iconst C (v := 0) (dk DX1_clear_0 28 rfl) (by decide) ?_
    refine st_put C fl_RX1_34 fc_0 fw_0_3 (dk DX1_clear_0 29 rfl) 0 rfl rfl rfl (Nat.le_of_ble_eq_true rfl) ?_
    refine st_aload_n C (dk DX1_clear_0 30 rfl) rfl ?_
    refine st_iconst C (v := 0) (dk DX1_clear_0 31 rfl) (by decide) ?_
    refine st_bipush C (v := 17) (dk DX1_clear_0 32 rfl) (by decide) ?_
    refine st_bipush C (v := 17) (dk DX1_clear_0 33 rfl) (by decide) ?_
    refine st_cS C (k_X0_of l G) mf_X0_of ms_X0_of ml_RX1_20 (dk DX1_clear_0 34 rfl) [] rfl rfl rfl rfl (Nat.le_of_ble_eq_true rfl) ⟨Nat.le_of_ble_eq_true rfl, Nat.le_of_ble_eq_true rfl⟩ ⟨Nat.zero_le _, Nat.zero_le _⟩ (fun r9 w9 hq9 => ?_)
    obtain ⟨rfl, rfl⟩ := hq9
    refine st_put C fl_RX1_24 fc_0 fw_0_4 (dk DX1_clear_0 35 rfl) 0 rfl rfl rfl (Nat.le_of_ble_eq_true rfl) ?_
    exact Rr 0 0 _ _ _ _ _ _ (Nat.zero_le _) (Nat.zero_le _) (dk DX1_clear_0 36 rfl) (.inl ⟨rfl, rfl, rfl, rfl⟩) rfl ⟨rfl, ⟨rfl, lk, ld, hlk, hld, rfl⟩⟩
  have loop2 : ∀ (lk : Nat → Int32) (hlk : ∀ j, j < 15 → lk j = 0) (m i : Nat) (x : Int32) (ld : Nat → Int32), i + m = 16 → x = nI i → (∀ j, j < i → ld j = 0) → P 0 0 23 [(0, .ref p), (1, .int x)] [] [(p, ob 0 (cF q1 q2 fb sb co le sp sw dp)), (q1, aI G 15 lk), (q2, aI G 16 ld)] := by
    intro lk hlk m
    induction m with
    | zero =>
      intro i x ld hi hx hf
      obtain rfl : i = 16 := by omega
      refine st_iload_n C (dk DX1_clear_0 14 rfl) rfl ?_
      refine st_bipush C (v := 16) (dk DX1_clear_0 15 rfl) (by decide) ?_
      refine st_icmp_ge C (tgt := 42) (dk DX1_clear_0 16 rfl) (by decide) (fun c_26 => ?_) (fun c_26 => ?_)
      · exact K42 _ _ _ hlk hf
      · exact absurd ((ge_nI (a := 16) (i := 16) (by decide) (by decide) rfl hx).mpr (Nat.le_refl _)) c_26
    | succ m ih =>
      intro i x ld hi hx hf
      refine st_iload_n C (dk DX1_clear_0 14 rfl) rfl ?_
      refine st_bipush C (v := 16) (dk DX1_clear_0 15 rfl) (by decide) ?_
      refine st_icmp_ge C (tgt := 42) (dk DX1_clear_0 16 rfl) (by decide) (fun c_26 => ?_) (fun c_26 => ?_)
      · exact absurd ((ge_nI (a := 16) (i := i) (by decide) (by omega) rfl hx).mp c_26) (by omega)
      · refine st_aload_n C (dk DX1_clear_0 17 rfl) rfl ?_
        refine st_get C fl_RX1_15 (dk DX1_clear_0 18 rfl) 0 rfl rfl ?_
        refine st_iload_n C (dk DX1_clear_0 19 rfl) rfl ?_
        refine st_iconst C (v := 0) (dk DX1_clear_0 20 rfl) (by decide) ?_
        refine st_iast C (dk DX1_clear_0 21 rfl) 2 rfl (vp_nI hx (by omega : i < 16) (by decide)) ?_
        refine st_iinc C (dk DX1_clear_0 22 rfl) rfl (iadd_ofInt _ (1) (1) (by decide)) (by decide) rfl ?_
        refine st_goto C (tgt := 23) (dk DX1_clear_0 23 rfl) (by decide) ?_
        exact ih (i + 1) _ _ (by omega) (up_nI hx) (upd_cp (g := fun _ => 0) hx (by omega) hf)
  have loop1 : ∀  (m i : Nat) (x : Int32) (lk : Nat → Int32), i + m = 15 → x = nI i → (∀ j, j < i → lk j = 0) → P 0 0 2 [(0, .ref p), (1, .int x)] [] [(p, ob 0 (cF q1 q2 fb sb co le sp sw dp)), (q1, aI G 15 lk), (q2, aI G 16 ld)] := by
    intro m
    induction m with
    | zero =>
      intro i x lk hi hx hf
      obtain rfl : i = 15 := by omega
      refine st_iload_n C (dk DX1_clear_0 2 rfl) rfl ?_
      refine st_bipush C (v := 15) (dk DX1_clear_0 3 rfl) (by decide) ?_
      refine st_icmp_ge C (tgt := 21) (dk DX1_clear_0 4 rfl) (by decide) (fun c_5 => ?_) (fun c_5 => ?_)
      · refine st_iconst C (v := 0) (dk DX1_clear_0 12 rfl) (by decide) ?_
        refine st_istore_n C (dk DX1_clear_0 13 rfl) (by decide) rfl ?_
        exact loop2 lk hf 16 0 _ ld (by omega) (by decide) (fun j hj => absurd hj (Nat.not_lt_zero j))
      · exact absurd ((ge_nI (a := 15) (i := 15) (by decide) (by decide) rfl hx).mpr (Nat.le_refl _)) c_5
    | succ m ih =>
      intro i x lk hi hx hf
      refine st_iload_n C (dk DX1_clear_0 2 rfl) rfl ?_
      refine st_bipush C (v := 15) (dk DX1_clear_0 3 rfl) (by decide) ?_
      refine st_icmp_ge C (tgt := 21) (dk DX1_clear_0 4 rfl) (by decide) (fun c_5 => ?_) (fun c_5 => ?_)
      · exact absurd ((ge_nI (a := 15) (i := i) (by decide) (by omega) rfl hx).mp c_5) (by omega)
      · refine st_aload_n C (dk DX1_clear_0 5 rfl) rfl ?_
        refine st_get C fl_RX1_9 (dk DX1_clear_0 6 rfl) 0 rfl rfl ?_
        refine st_iload_n C (dk DX1_clear_0 7 rfl) rfl ?_
        refine st_iconst C (v := 0) (dk DX1_clear_0 8 rfl) (by decide) ?_
        refine st_iast C (dk DX1_clear_0 9 rfl) 1 rfl (vp_nI hx (by omega : i < 15) (by decide)) ?_
        refine st_iinc C (dk DX1_clear_0 10 rfl) rfl (iadd_ofInt _ (1) (1) (by decide)) (by decide) rfl ?_
        refine st_goto C (tgt := 2) (dk DX1_clear_0 11 rfl) (by decide) ?_
        exact ih (i + 1) _ _ (by omega) (up_nI hx) (upd_cp (g := fun _ => 0) hx (by omega) hf)
  refine st_iconst C (v := 0) (dk DX1_clear_0 0 rfl) (by decide) ?_
  refine st_istore_n C (dk DX1_clear_0 1 rfl) (by decide) rfl ?_
  exact loop1 15 0 _ lk (by omega) (by decide) (fun j hj => absurd hj (Nat.not_lt_zero j))
