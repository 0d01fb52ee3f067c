/-! contracts of stepTo and of the text but its reading -/
set_option maxHeartbeats 4000000 in
set_option maxRecDepth 100000 in
theorem k_X3_stepTo (l : Launch) (G : wG) {t t1 t2 t3 t4 : Nat} {sz rc : Int32} {en nd ln : Nat → Int32} {c b : Int32} : Con0 l G yX3_stepTo cX3_stepTo 5 (some .int) 1 [.ref t, .int c, .int b] [(t, ob 2 (sF t1 t2 t3 t4 sz rc)), (t1, aI G 4624 en), (t3, aI G 16 nd), (t4, aI G 16 ln)] (fun r w => r = some (.int (rStepTo en nd ln c b)) ∧ w = [(t, ob 2 (sF t1 t2 t3 t4 sz rc)), (t1, aI G 4624 en), (t3, aI G 16 nd), (t4, aI G 16 ln)]) := by
  refine Con.mk (by decide +kernel) (Nat.le_of_ble_eq_true rfl) (fun P C Rr => ?_)
  have loop : ∀ (m a : Nat) (e9 x : Int32), a + m < 2 ^ 31 → x = nI (a + m) → rStp (rChase en e9 m) = rStepTo en nd ln c b → P 0 0 44 [(0, .ref t), (1, .int c), (2, .int (nI a)), (3, .int e9), (4, .int x)] [] [(t, ob 2 (sF t1 t2 t3 t4 sz rc)), (t1, aI G 4624 en), (t3, aI G 16 nd), (t4, aI G 16 ln)] := by
    intro m
    induction m with
    | zero =>
      intro a e9 x ha hx hr
      refine st_iload C (dk DX3_stepTo_0 27 rfl) rfl ?_
      refine st_iload_n C (dk DX3_stepTo_0 28 rfl) rfl ?_
      refine st_icmp_le C (tgt := 65) (dk DX3_stepTo_0 29 rfl) (by decide) (fun c_47 => ?_) (fun c_47 => ?_)
      · refine st_iload_n C (dk DX3_stepTo_0 37 rfl) rfl ?_
        refine st_cS C (k_X3_stepOf l G) mf_X3_stepOf ms_X3_stepOf ml_RX3_67 (dk DX3_stepTo_0 38 rfl) [] rfl rfl rfl rfl (Nat.le_of_ble_eq_true rfl) ⟨Nat.le_of_ble_eq_true rfl, Nat.le_of_ble_eq_true rfl⟩ ⟨Nat.zero_le _, Nat.zero_le _⟩ (fun r9 w9 hq9 => ?_)
        obtain ⟨rfl, rfl⟩ := hq9
        exact Rr 0 0 _ _ _ _ _ _ (Nat.zero_le _) (Nat.zero_le _) (dk DX3_stepTo_0 39 rfl) (.inr (.inl ⟨_, rfl, rfl, rfl, rfl⟩)) rfl ⟨rfl, ⟨congrArg (fun z => some (Value.int z)) hr, rfl⟩⟩
      · exact absurd ((ge_nI (a := a + 0) (i := a) ha (by omega) hx rfl).mpr (by omega)) c_47
    | succ m ih =>
      intro a e9 x ha hx hr
      refine st_iload C (dk DX3_stepTo_0 27 rfl) rfl ?_
      refine st_iload_n C (dk DX3_stepTo_0 28 rfl) rfl ?_
      refine st_icmp_le C (tgt := 65) (dk DX3_stepTo_0 29 rfl) (by decide) (fun c_47 => ?_) (fun c_47 => ?_)
      · exact absurd ((ge_nI (a := a + (m + 1)) (i := a) ha (by omega) hx rfl).mp c_47) (by omega)
      · refine st_aload_n C (dk DX3_stepTo_0 30 rfl) rfl ?_
        refine st_iload_n C (dk DX3_stepTo_0 31 rfl) rfl ?_
        refine st_cS C (k_X3_beforeOf l G) mf_X3_beforeOf ms_X3_beforeOf ml_RX3_64 (dk DX3_stepTo_0 32 rfl) [] rfl rfl rfl rfl (Nat.le_of_ble_eq_true rfl) ⟨Nat.le_of_ble_eq_true rfl, Nat.le_of_ble_eq_true rfl⟩ ⟨Nat.zero_le _, Nat.zero_le _⟩ (fun r9 w9 hq9 => ?_)
        obtain ⟨rfl, rfl⟩ := hq9
        refine st_cV C (k_X3_entryAt l G) mf_X3_entryAt mi_X3_entryAt ml_RX3_61 (dk DX3_stepTo_0 33 rfl) [0, 1] rfl rfl rfl rfl (Nat.le_of_ble_eq_true rfl) rfl rfl ⟨Nat.le_of_ble_eq_true rfl, Nat.le_of_ble_eq_true rfl⟩ ⟨Nat.zero_le _, Nat.zero_le _⟩ (fun r9 w9 hq9 => ?_)
        obtain ⟨rfl, rfl⟩ := hq9
        refine st_istore_n C (dk DX3_stepTo_0 34 rfl) (by decide) rfl ?_
        refine st_iinc C (dk DX3_stepTo_0 35 rfl) rfl (iadd_ofInt _ (-1) (-1) (by decide)) (by decide) rfl ?_
        refine st_goto C (tgt := 44) (dk DX3_stepTo_0 36 rfl) (by decide) ?_
        exact ih a _ _ (by omega) (by rw [hx]; exact pk_m1 (a + m)) hr
  refine st_iload_n C (dk DX3_stepTo_0 0 rfl) rfl ?_
  refine st_cS C (k_X5_isCell l G) mf_X5_isCell ms_X5_isCell ml_RX3_57 (dk DX3_stepTo_0 1 rfl) [] rfl rfl rfl rfl (Nat.le_of_ble_eq_true rfl) ⟨Nat.le_of_ble_eq_true rfl, Nat.le_of_ble_eq_true rfl⟩ ⟨Nat.zero_le _, Nat.zero_le _⟩ (fun r9 w9 hq9 => ?_)
  obtain ⟨rfl, rfl⟩ := hq9
  refine st_if_eq C (tgt := 21) (dk DX3_stepTo_0 2 rfl) (by decide) (fun c_4 => ?_) (fun c_4 => ?_)
  · refine st_iconst C (v := -1) (dk DX3_stepTo_0 11 rfl) (by decide) ?_
    exact Rr 0 0 _ _ _ _ _ _ (Nat.zero_le _) (Nat.zero_le _) (dk DX3_stepTo_0 12 rfl) (.inr (.inl ⟨_, rfl, rfl, rfl, rfl⟩)) rfl ⟨rfl, ⟨by first | (simp [c_4, rStepTo]; done) | (simp_all [rStepTo]; done), rfl⟩⟩
  · refine st_iload_n C (dk DX3_stepTo_0 3 rfl) rfl ?_
    refine st_if_lt C (tgt := 21) (dk DX3_stepTo_0 4 rfl) (by decide) (fun c_8 => ?_) (fun c_8 => ?_)
    · refine st_iconst C (v := -1) (dk DX3_stepTo_0 11 rfl) (by decide) ?_
      exact Rr 0 0 _ _ _ _ _ _ (Nat.zero_le _) (Nat.zero_le _) (dk DX3_stepTo_0 12 rfl) (.inr (.inl ⟨_, rfl, rfl, rfl, rfl⟩)) rfl ⟨rfl, ⟨by first | (simp [c_4, c_8, rStepTo]; done) | (simp_all [rStepTo]; done), rfl⟩⟩
    · refine st_iload_n C (dk DX3_stepTo_0 5 rfl) rfl ?_
      refine st_aload_n C (dk DX3_stepTo_0 6 rfl) rfl ?_
      refine st_get C fl_RX3_24 (dk DX3_stepTo_0 7 rfl) 0 rfl rfl ?_
      refine st_iload_n C (dk DX3_stepTo_0 8 rfl) rfl ?_
      refine st_iald C (dk DX3_stepTo_0 9 rfl) 3 rfl (rIn_vp (by decide) (by decide) c_4) ?_
      refine st_icmp_lt C (tgt := 23) (dk DX3_stepTo_0 10 rfl) (by decide) (fun c_18 => ?_) (fun c_18 => ?_)
      · obtain ⟨j, hj, rfl⟩ := nI_of c_8
        obtain ⟨b9, hb9, hlt, hb⟩ := lt_pos hj c_18
        refine st_aload_n C (dk DX3_stepTo_0 13 rfl) rfl ?_
        refine st_aload_n C (dk DX3_stepTo_0 14 rfl) rfl ?_
        refine st_get C fl_RX3_21 (dk DX3_stepTo_0 15 rfl) 0 rfl rfl ?_
        refine st_iload_n C (dk DX3_stepTo_0 16 rfl) rfl ?_
        refine st_iald C (dk DX3_stepTo_0 17 rfl) 2 rfl (rIn_vp (by decide) (by decide) c_4) ?_
        refine st_cV C (k_X3_entryAt l G) mf_X3_entryAt mi_X3_entryAt ml_RX3_61 (dk DX3_stepTo_0 18 rfl) [0, 1] rfl rfl rfl rfl (Nat.le_of_ble_eq_true rfl) rfl rfl ⟨Nat.le_of_ble_eq_true rfl, Nat.le_of_ble_eq_true rfl⟩ ⟨Nat.zero_le _, Nat.zero_le _⟩ (fun r9 w9 hq9 => ?_)
        obtain ⟨rfl, rfl⟩ := hq9
        refine st_istore_n C (dk DX3_stepTo_0 19 rfl) (by decide) rfl ?_
        refine st_aload_n C (dk DX3_stepTo_0 20 rfl) rfl ?_
        refine st_get C fl_RX3_24 (dk DX3_stepTo_0 21 rfl) 0 rfl rfl ?_
        refine st_iload_n C (dk DX3_stepTo_0 22 rfl) rfl ?_
        refine st_iald C (dk DX3_stepTo_0 23 rfl) 3 rfl (rIn_vp (by decide) (by decide) c_4) ?_
        refine st_iconst C (v := 1) (dk DX3_stepTo_0 24 rfl) (by decide) ?_
        refine st_isub C (dk DX3_stepTo_0 25 rfl) ?_
        refine st_istore C (dk DX3_stepTo_0 26 rfl) (by decide) rfl ?_
        exact loop (b9 - 1 - j) j _ _ (by omega) (by rw [hb, show (1 : Int32) = nI 1 from rfl, pk_sub (by omega)]; congr 1; omega) (by rw [rStepTo, if_neg c_4, if_neg c_8, if_pos c_18, hb, nI_clamp hb9, nI_clamp hj])
      · refine st_iconst C (v := -1) (dk DX3_stepTo_0 11 rfl) (by decide) ?_
        exact Rr 0 0 _ _ _ _ _ _ (Nat.zero_le _) (Nat.zero_le _) (dk DX3_stepTo_0 12 rfl) (.inr (.inl ⟨_, rfl, rfl, rfl, rfl⟩)) rfl ⟨rfl, ⟨by first | (simp [c_4, c_8, c_18, rStepTo]; done) | (simp_all [rStepTo]; done), rfl⟩⟩
set_option maxHeartbeats 4000000 in
set_option maxRecDepth 100000 in
theorem k_X4_codeAt (l : Launch) (G : wG) {y y1 : Nat} {tl ce la : Int32} {cd : Nat → Int32} {i : Int32} : Con0 l G yX4_codeAt cX4_codeAt 2 (some .int) 0 [.ref y, .int i] [(y, ob 3 (tF y1 tl ce la)), (y1, aI G 60 cd)] (fun r w => r = some (.int (rAt cd i)) ∧ w = [(y, ob 3 (tF y1 tl ce la)), (y1, aI G 60 cd)]) := by
  refine Con.mk (by decide +kernel) (Nat.le_of_ble_eq_true rfl) (fun P C Rr => ?_)
  refine st_iload_n C (dk DX4_codeAt_0 0 rfl) rfl ?_
  refine st_if_lt C (tgt := 19) (dk DX4_codeAt_0 1 rfl) (by decide) (fun c_1 => ?_) (fun c_1 => ?_)
  · refine st_iconst C (v := 0) (dk DX4_codeAt_0 10 rfl) (by decide) ?_
    exact Rr 0 0 _ _ _ _ _ _ (Nat.zero_le _) (Nat.zero_le _) (dk DX4_codeAt_0 11 rfl) (.inr (.inl ⟨_, rfl, rfl, rfl, rfl⟩)) rfl ⟨rfl, ⟨by first | (simp [c_1, rAt]; done) | (simp_all [rAt]; done), rfl⟩⟩
  · refine st_iload_n C (dk DX4_codeAt_0 2 rfl) rfl ?_
    refine st_bipush C (v := 60) (dk DX4_codeAt_0 3 rfl) (by decide) ?_
    refine st_icmp_ge C (tgt := 19) (dk DX4_codeAt_0 4 rfl) (by decide) (fun c_7 => ?_) (fun c_7 => ?_)
    · refine st_iconst C (v := 0) (dk DX4_codeAt_0 10 rfl) (by decide) ?_
      exact Rr 0 0 _ _ _ _ _ _ (Nat.zero_le _) (Nat.zero_le _) (dk DX4_codeAt_0 11 rfl) (.inr (.inl ⟨_, rfl, rfl, rfl, rfl⟩)) rfl ⟨rfl, ⟨by first | (simp [c_1, c_7, rAt]; done) | (simp_all [rAt]; done), rfl⟩⟩
    · refine st_aload_n C (dk DX4_codeAt_0 5 rfl) rfl ?_
      refine st_get C fl_RX4_9 (dk DX4_codeAt_0 6 rfl) 0 rfl rfl ?_
      refine st_iload_n C (dk DX4_codeAt_0 7 rfl) rfl ?_
      refine st_iald C (dk DX4_codeAt_0 8 rfl) 1 rfl (vp_of (by decide) (by decide) c_1 c_7) ?_
      refine st_goto C (tgt := 20) (dk DX4_codeAt_0 9 rfl) (by decide) ?_
      exact Rr 0 0 _ _ _ _ _ _ (Nat.zero_le _) (Nat.zero_le _) (dk DX4_codeAt_0 11 rfl) (.inr (.inl ⟨_, rfl, rfl, rfl, rfl⟩)) rfl ⟨rfl, ⟨by first | (simp [c_1, c_7, rAt]; done) | (simp_all [rAt]; done), rfl⟩⟩
set_option maxHeartbeats 4000000 in
set_option maxRecDepth 100000 in
theorem k_X4_add (l : Launch) (G : wG) {y y1 : Nat} {tl ce la : Int32} {cd : Nat → Int32} {v : Int32} : Con0 l G yX4_add cX4_add 2 none 0 [.ref y, .int v] [(y, ob 3 (tF y1 tl ce la)), (y1, aI G 60 cd)] (fun r w => r = none ∧ w = [(y, ob 3 (if tl < 0 then tF y1 tl ce la else if 60 ≤ tl then tF y1 tl ce la else tF y1 (tl + 1) ce la)), (y1, aI G 60 (if tl < 0 then cd else if 60 ≤ tl then cd else upd cd tl.toNatClampNeg v))]) := by
  refine Con.mk (by decide +kernel) (Nat.le_of_ble_eq_true rfl) (fun P C Rr => ?_)
  refine st_aload_n C (dk DX4_add_0 0 rfl) rfl ?_
  refine st_get C fl_RX4_15 (dk DX4_add_0 1 rfl) 0 rfl rfl ?_
  refine st_if_lt C (tgt := 36) (dk DX4_add_0 2 rfl) (by decide) (fun c_4 => ?_) (fun c_4 => ?_)
  · exact Rr 0 0 _ _ _ _ _ _ (Nat.zero_le _) (Nat.zero_le _) (dk DX4_add_0 19 rfl) (.inl ⟨rfl, rfl, rfl, rfl⟩) rfl ⟨rfl, ⟨rfl, by rw [if_pos c_4, if_pos c_4]; rfl⟩⟩
  · refine st_aload_n C (dk DX4_add_0 3 rfl) rfl ?_
    refine st_get C fl_RX4_15 (dk DX4_add_0 4 rfl) 0 rfl rfl ?_
    refine st_bipush C (v := 60) (dk DX4_add_0 5 rfl) (by decide) ?_
    refine st_icmp_ge C (tgt := 36) (dk DX4_add_0 6 rfl) (by decide) (fun c_13 => ?_) (fun c_13 => ?_)
    · exact Rr 0 0 _ _ _ _ _ _ (Nat.zero_le _) (Nat.zero_le _) (dk DX4_add_0 19 rfl) (.inl ⟨rfl, rfl, rfl, rfl⟩) rfl ⟨rfl, ⟨rfl, by rw [if_neg c_4, if_pos c_13, if_neg c_4, if_pos c_13]; rfl⟩⟩
    · refine st_aload_n C (dk DX4_add_0 7 rfl) rfl ?_
      refine st_get C fl_RX4_9 (dk DX4_add_0 8 rfl) 0 rfl rfl ?_
      refine st_aload_n C (dk DX4_add_0 9 rfl) rfl ?_
      refine st_get C fl_RX4_15 (dk DX4_add_0 10 rfl) 0 rfl rfl ?_
      refine st_iload_n C (dk DX4_add_0 11 rfl) rfl ?_
      refine st_iast C (dk DX4_add_0 12 rfl) 1 rfl (vp_of (by decide) (by decide) c_4 c_13) ?_
      refine st_aload_n C (dk DX4_add_0 13 rfl) rfl ?_
      refine st_dup C (dk DX4_add_0 14 rfl) rfl ?_
      refine st_get C fl_RX4_15 (dk DX4_add_0 15 rfl) 0 rfl rfl ?_
      refine st_iconst C (v := 1) (dk DX4_add_0 16 rfl) (by decide) ?_
      refine st_iadd C (dk DX4_add_0 17 rfl) ?_
      refine st_put C fl_RX4_15 fc_3 fw_3_1 (dk DX4_add_0 18 rfl) 0 rfl rfl rfl (Nat.le_of_ble_eq_true rfl) ?_
      exact Rr 0 0 _ _ _ _ _ _ (Nat.zero_le _) (Nat.zero_le _) (dk DX4_add_0 19 rfl) (.inl ⟨rfl, rfl, rfl, rfl⟩) rfl ⟨rfl, ⟨rfl, by rw [if_neg c_4, if_neg c_13, if_neg c_4, if_neg c_13]; rfl⟩⟩
set_option maxHeartbeats 4000000 in
set_option maxRecDepth 100000 in
theorem k_X4_takeKey (l : Launch) (G : wG) {y y1 : Nat} {tl ce la : Int32} {p q1 q2 : Nat} {fb sb co le sp sw dp : Int32} {b : Int32} : Con0 l G yX4_takeKey cX4_takeKey 3 (some .boolean) 2 [.ref y, .int b, .ref p] [(y, ob 3 (tF y1 tl ce la)), (p, ob 0 (cF q1 q2 fb sb co le sp sw dp))] (fun r w => r = some (.int (rTkB ce b fb sb)) ∧ w = [(y, ob 3 (rTkT y1 tl ce la b fb sb)), (p, ob 0 (rTkC q1 q2 fb sb co le sp sw dp ce b))]) := by
  refine Con.mk (by decide +kernel) (Nat.le_of_ble_eq_true rfl) (fun P C Rr => ?_)
  refine st_aload_n C (dk DX4_takeKey_0 0 rfl) rfl ?_
  refine st_get C fl_RX4_19 (dk DX4_takeKey_0 1 rfl) 0 rfl rfl ?_
  refine st_bipush C (v := 16) (dk DX4_takeKey_0 2 rfl) (by decide) ?_
  refine st_icmp_ge C (tgt := 21) (dk DX4_takeKey_0 3 rfl) (by decide) (fun c_6 => ?_) (fun c_6 => ?_)
  · refine st_iconst C (v := 0) (dk DX4_takeKey_0 10 rfl) (by decide) ?_
    exact Rr 0 0 _ _ _ _ _ _ (Nat.zero_le _) (Nat.zero_le _) (dk DX4_takeKey_0 11 rfl) (.inr (.inr (.inl ⟨_, rfl, (by first | exact Or.inl rfl | exact Or.inr rfl | assumption), rfl, rfl, rfl⟩))) rfl ⟨rfl, ⟨by first | (simp [c_6, rTkB, rTkT, rTkC]; done) | (simp_all [rTkB, rTkT, rTkC]; done), by first | (simp [c_6, rTkB, rTkT, rTkC]; done) | (simp [c_6, rTkB, rTkT, rTkC]; rfl) | (simp_all [rTkB, rTkT, rTkC]; done) | (simp_all [rTkB, rTkT, rTkC]; rfl)⟩⟩
  · refine st_iload_n C (dk DX4_takeKey_0 4 rfl) rfl ?_
    refine st_if_eq C (tgt := 23) (dk DX4_takeKey_0 5 rfl) (by decide) (fun c_10 => ?_) (fun c_10 => ?_)
    · refine st_aload_n C (dk DX4_takeKey_0 12 rfl) rfl ?_
      refine st_aload_n C (dk DX4_takeKey_0 13 rfl) rfl ?_
      refine st_get C fl_RX4_19 (dk DX4_takeKey_0 14 rfl) 0 rfl rfl ?_
      refine st_iload_n C (dk DX4_takeKey_0 15 rfl) rfl ?_
      refine st_cV C (k_X1_putKey l G) mf_X1_putKey mi_X1_putKey ml_RX4_49 (dk DX4_takeKey_0 16 rfl) [1] rfl rfl rfl rfl (Nat.le_of_ble_eq_true rfl) rfl rfl ⟨Nat.le_of_ble_eq_true rfl, Nat.le_of_ble_eq_true rfl⟩ ⟨Nat.zero_le _, Nat.zero_le _⟩ (fun r9 w9 hq9 => ?_)
      obtain ⟨rfl, rfl⟩ := hq9
      refine st_aload_n C (dk DX4_takeKey_0 17 rfl) rfl ?_
      refine st_dup C (dk DX4_takeKey_0 18 rfl) rfl ?_
      refine st_get C fl_RX4_19 (dk DX4_takeKey_0 19 rfl) 0 rfl rfl ?_
      refine st_iconst C (v := 1) (dk DX4_takeKey_0 20 rfl) (by decide) ?_
      refine st_iadd C (dk DX4_takeKey_0 21 rfl) ?_
      refine st_put C fl_RX4_19 fc_3 fw_3_2 (dk DX4_takeKey_0 22 rfl) 0 rfl rfl rfl (Nat.le_of_ble_eq_true rfl) ?_
      refine st_aload_n C (dk DX4_takeKey_0 23 rfl) rfl ?_
      refine st_iconst C (v := 1) (dk DX4_takeKey_0 24 rfl) (by decide) ?_
      refine st_put C fl_RX4_22 fc_3 fw_3_3 (dk DX4_takeKey_0 25 rfl) 0 rfl rfl rfl (Nat.le_of_ble_eq_true rfl) ?_
      refine st_iconst C (v := 1) (dk DX4_takeKey_0 26 rfl) (by decide) ?_
      exact Rr 0 0 _ _ _ _ _ _ (Nat.zero_le _) (Nat.zero_le _) (dk DX4_takeKey_0 27 rfl) (.inr (.inr (.inl ⟨_, rfl, (by first | exact Or.inl rfl | exact Or.inr rfl | assumption), rfl, rfl, rfl⟩))) rfl ⟨rfl, ⟨by first | (simp [c_6, c_10, rTkB, rTkT, rTkC]; done) | (simp_all [rTkB, rTkT, rTkC]; done), by first | (simp [c_6, c_10, rTkB, rTkT, rTkC]; done) | (simp [c_6, c_10, rTkB, rTkT, rTkC]; rfl) | (simp_all [rTkB, rTkT, rTkC]; done) | (simp_all [rTkB, rTkT, rTkC]; rfl)⟩⟩
    · refine st_aload_n C (dk DX4_takeKey_0 6 rfl) rfl ?_
      refine st_cV C (k_X1_keys l G) mf_X1_keys mi_X1_keys ml_RX4_43 (dk DX4_takeKey_0 7 rfl) [1] rfl rfl rfl rfl (Nat.le_of_ble_eq_true rfl) rfl rfl ⟨Nat.le_of_ble_eq_true rfl, Nat.le_of_ble_eq_true rfl⟩ ⟨Nat.zero_le _, Nat.zero_le _⟩ (fun r9 w9 hq9 => ?_)
      obtain ⟨rfl, rfl⟩ := hq9
      refine st_iconst C (v := 2) (dk DX4_takeKey_0 8 rfl) (by decide) ?_
      refine st_icmp_lt C (tgt := 23) (dk DX4_takeKey_0 9 rfl) (by decide) (fun c_18 => ?_) (fun c_18 => ?_)
      · refine st_aload_n C (dk DX4_takeKey_0 12 rfl) rfl ?_
        refine st_aload_n C (dk DX4_takeKey_0 13 rfl) rfl ?_
        refine st_get C fl_RX4_19 (dk DX4_takeKey_0 14 rfl) 0 rfl rfl ?_
        refine st_iload_n C (dk DX4_takeKey_0 15 rfl) rfl ?_
        refine st_cV C (k_X1_putKey l G) mf_X1_putKey mi_X1_putKey ml_RX4_49 (dk DX4_takeKey_0 16 rfl) [1] rfl rfl rfl rfl (Nat.le_of_ble_eq_true rfl) rfl rfl ⟨Nat.le_of_ble_eq_true rfl, Nat.le_of_ble_eq_true rfl⟩ ⟨Nat.zero_le _, Nat.zero_le _⟩ (fun r9 w9 hq9 => ?_)
        obtain ⟨rfl, rfl⟩ := hq9
        refine st_aload_n C (dk DX4_takeKey_0 17 rfl) rfl ?_
        refine st_dup C (dk DX4_takeKey_0 18 rfl) rfl ?_
        refine st_get C fl_RX4_19 (dk DX4_takeKey_0 19 rfl) 0 rfl rfl ?_
        refine st_iconst C (v := 1) (dk DX4_takeKey_0 20 rfl) (by decide) ?_
        refine st_iadd C (dk DX4_takeKey_0 21 rfl) ?_
        refine st_put C fl_RX4_19 fc_3 fw_3_2 (dk DX4_takeKey_0 22 rfl) 0 rfl rfl rfl (Nat.le_of_ble_eq_true rfl) ?_
        refine st_aload_n C (dk DX4_takeKey_0 23 rfl) rfl ?_
        refine st_iconst C (v := 1) (dk DX4_takeKey_0 24 rfl) (by decide) ?_
        refine st_put C fl_RX4_22 fc_3 fw_3_3 (dk DX4_takeKey_0 25 rfl) 0 rfl rfl rfl (Nat.le_of_ble_eq_true rfl) ?_
        refine st_iconst C (v := 1) (dk DX4_takeKey_0 26 rfl) (by decide) ?_
        exact Rr 0 0 _ _ _ _ _ _ (Nat.zero_le _) (Nat.zero_le _) (dk DX4_takeKey_0 27 rfl) (.inr (.inr (.inl ⟨_, rfl, (by first | exact Or.inl rfl | exact Or.inr rfl | assumption), rfl, rfl, rfl⟩))) rfl ⟨rfl, ⟨by first | (simp [c_6, c_10, c_18, rTkB, rTkT, rTkC]; done) | (simp_all [rTkB, rTkT, rTkC]; done), by first | (simp [c_6, c_10, c_18, rTkB, rTkT, rTkC]; done) | (simp [c_6, c_10, c_18, rTkB, rTkT, rTkC]; rfl) | (simp_all [rTkB, rTkT, rTkC]; done) | (simp_all [rTkB, rTkT, rTkC]; rfl)⟩⟩
      · refine st_iconst C (v := 0) (dk DX4_takeKey_0 10 rfl) (by decide) ?_
        exact Rr 0 0 _ _ _ _ _ _ (Nat.zero_le _) (Nat.zero_le _) (dk DX4_takeKey_0 11 rfl) (.inr (.inr (.inl ⟨_, rfl, (by first | exact Or.inl rfl | exact Or.inr rfl | assumption), rfl, rfl, rfl⟩))) rfl ⟨rfl, ⟨by first | (simp [c_6, c_10, c_18, rTkB, rTkT, rTkC]; done) | (simp_all [rTkB, rTkT, rTkC]; done), by first | (simp [c_6, c_10, c_18, rTkB, rTkT, rTkC]; done) | (simp [c_6, c_10, c_18, rTkB, rTkT, rTkC]; rfl) | (simp_all [rTkB, rTkT, rTkC]; done) | (simp_all [rTkB, rTkT, rTkC]; rfl)⟩⟩
set_option maxHeartbeats 4000000 in
set_option maxRecDepth 100000 in
theorem k_X4_takeLadder (l : Launch) (G : wG) {y y1 : Nat} {tl ce la : Int32} {p q1 q2 : Nat} {fb sb co le sp sw dp : Int32} {ld : Nat → Int32} : Con0 l G yX4_takeLadder cX4_takeLadder 2 (some .boolean) 2 [.ref y, .ref p] [(y, ob 3 (tF y1 tl ce la)), (p, ob 0 (cF q1 q2 fb sb co le sp sw dp)), (q2, aI G 16 ld)] (fun r w => r = some (.int (rTlB la)) ∧ w = [(y, ob 3 (rTlT y1 tl ce la)), (p, ob 0 (cF q1 q2 fb sb co le sp sw dp)), (q2, aI G 16 (rTlD ld ce la))]) := by
  refine Con.mk (by decide +kernel) (Nat.le_of_ble_eq_true rfl) (fun P C Rr => ?_)
  refine st_aload_n C (dk DX4_takeLadder_0 0 rfl) rfl ?_
  refine st_get C fl_RX4_22 (dk DX4_takeLadder_0 1 rfl) 0 rfl rfl ?_
  refine st_iconst C (v := 1) (dk DX4_takeLadder_0 2 rfl) (by decide) ?_
  refine st_icmp_eq C (tgt := 10) (dk DX4_takeLadder_0 3 rfl) (by decide) (fun c_5 => ?_) (fun c_5 => ?_)
  · refine st_aload_n C (dk DX4_takeLadder_0 6 rfl) rfl ?_
    refine st_aload_n C (dk DX4_takeLadder_0 7 rfl) rfl ?_
    refine st_get C fl_RX4_19 (dk DX4_takeLadder_0 8 rfl) 0 rfl rfl ?_
    refine st_iconst C (v := 1) (dk DX4_takeLadder_0 9 rfl) (by decide) ?_
    refine st_isub C (dk DX4_takeLadder_0 10 rfl) ?_
    refine st_iconst C (v := 1) (dk DX4_takeLadder_0 11 rfl) (by decide) ?_
    refine st_cV C (k_X1_setLadder l G) mf_X1_setLadder mi_X1_setLadder ml_RX4_53 (dk DX4_takeLadder_0 12 rfl) [1, 2] rfl rfl rfl rfl (Nat.le_of_ble_eq_true rfl) rfl rfl ⟨Nat.le_of_ble_eq_true rfl, Nat.le_of_ble_eq_true rfl⟩ ⟨Nat.zero_le _, Nat.zero_le _⟩ (fun r9 w9 hq9 => ?_)
    obtain ⟨rfl, rfl⟩ := hq9
    refine st_aload_n C (dk DX4_takeLadder_0 13 rfl) rfl ?_
    refine st_iconst C (v := 2) (dk DX4_takeLadder_0 14 rfl) (by decide) ?_
    refine st_put C fl_RX4_22 fc_3 fw_3_3 (dk DX4_takeLadder_0 15 rfl) 0 rfl rfl rfl (Nat.le_of_ble_eq_true rfl) ?_
    refine st_iconst C (v := 1) (dk DX4_takeLadder_0 16 rfl) (by decide) ?_
    exact Rr 0 0 _ _ _ _ _ _ (Nat.zero_le _) (Nat.zero_le _) (dk DX4_takeLadder_0 17 rfl) (.inr (.inr (.inl ⟨_, rfl, (by first | exact Or.inl rfl | exact Or.inr rfl | assumption), rfl, rfl, rfl⟩))) rfl ⟨rfl, ⟨by first | (simp [c_5, rTlB, rTlT, rTlD]; done) | (simp_all [rTlB, rTlT, rTlD]; done), by first | (simp [c_5, rTlB, rTlT, rTlD]; done) | (simp [c_5, rTlB, rTlT, rTlD]; rfl) | (simp_all [rTlB, rTlT, rTlD]; done) | (simp_all [rTlB, rTlT, rTlD]; rfl)⟩⟩
  · refine st_iconst C (v := 0) (dk DX4_takeLadder_0 4 rfl) (by decide) ?_
    exact Rr 0 0 _ _ _ _ _ _ (Nat.zero_le _) (Nat.zero_le _) (dk DX4_takeLadder_0 5 rfl) (.inr (.inr (.inl ⟨_, rfl, (by first | exact Or.inl rfl | exact Or.inr rfl | assumption), rfl, rfl, rfl⟩))) rfl ⟨rfl, ⟨by first | (simp [c_5, rTlB, rTlT, rTlD]; done) | (simp_all [rTlB, rTlT, rTlD]; done), by first | (simp [c_5, rTlB, rTlT, rTlD]; done) | (simp [c_5, rTlB, rTlT, rTlD]; rfl) | (simp_all [rTlB, rTlT, rTlD]; done) | (simp_all [rTlB, rTlT, rTlD]; rfl)⟩⟩
set_option maxHeartbeats 4000000 in
set_option maxRecDepth 100000 in
theorem k_X4_takeDoor (l : Launch) (G : wG) {y y1 : Nat} {tl ce la : Int32} {p q1 q2 : Nat} {fb sb co le sp sw dp : Int32} {lk : Nat → Int32} {v : Int32} : Con0 l G yX4_takeDoor cX4_takeDoor 3 (some .boolean) 2 [.ref y, .int v, .ref p] [(y, ob 3 (tF y1 tl ce la)), (p, ob 0 (cF q1 q2 fb sb co le sp sw dp)), (q1, aI G 15 lk)] (fun r w => r = some (.int (rTdB la ce)) ∧ w = [(y, ob 3 (rTdT y1 tl ce la)), (p, ob 0 (cF q1 q2 fb sb co le sp sw dp)), (q1, aI G 15 (rTdK lk ce la v))]) := by
  refine Con.mk (by decide +kernel) (Nat.le_of_ble_eq_true rfl) (fun P C Rr => ?_)
  refine st_aload_n C (dk DX4_takeDoor_0 0 rfl) rfl ?_
  refine st_get C fl_RX4_22 (dk DX4_takeDoor_0 1 rfl) 0 rfl rfl ?_
  refine st_iconst C (v := 1) (dk DX4_takeDoor_0 2 rfl) (by decide) ?_
  refine st_icmp_eq C (tgt := 16) (dk DX4_takeDoor_0 3 rfl) (by decide) (fun c_5 => ?_) (fun c_5 => ?_)
  · refine st_aload_n C (dk DX4_takeDoor_0 8 rfl) rfl ?_
    refine st_get C fl_RX4_19 (dk DX4_takeDoor_0 9 rfl) 0 rfl rfl ?_
    refine st_bipush C (v := 16) (dk DX4_takeDoor_0 10 rfl) (by decide) ?_
    refine st_icmp_lt C (tgt := 27) (dk DX4_takeDoor_0 11 rfl) (by decide) (fun c_22 => ?_) (fun c_22 => ?_)
    · refine st_aload_n C (dk DX4_takeDoor_0 14 rfl) rfl ?_
      refine st_aload_n C (dk DX4_takeDoor_0 15 rfl) rfl ?_
      refine st_get C fl_RX4_19 (dk DX4_takeDoor_0 16 rfl) 0 rfl rfl ?_
      refine st_iconst C (v := 1) (dk DX4_takeDoor_0 17 rfl) (by decide) ?_
      refine st_isub C (dk DX4_takeDoor_0 18 rfl) ?_
      refine st_iload_n C (dk DX4_takeDoor_0 19 rfl) rfl ?_
      refine st_cV C (k_X1_setLock l G) mf_X1_setLock mi_X1_setLock ml_RX4_56 (dk DX4_takeDoor_0 20 rfl) [1, 2] rfl rfl rfl rfl (Nat.le_of_ble_eq_true rfl) rfl rfl ⟨Nat.le_of_ble_eq_true rfl, Nat.le_of_ble_eq_true rfl⟩ ⟨Nat.zero_le _, Nat.zero_le _⟩ (fun r9 w9 hq9 => ?_)
      obtain ⟨rfl, rfl⟩ := hq9
      refine st_aload_n C (dk DX4_takeDoor_0 21 rfl) rfl ?_
      refine st_iconst C (v := 3) (dk DX4_takeDoor_0 22 rfl) (by decide) ?_
      refine st_put C fl_RX4_22 fc_3 fw_3_3 (dk DX4_takeDoor_0 23 rfl) 0 rfl rfl rfl (Nat.le_of_ble_eq_true rfl) ?_
      refine st_iconst C (v := 1) (dk DX4_takeDoor_0 24 rfl) (by decide) ?_
      exact Rr 0 0 _ _ _ _ _ _ (Nat.zero_le _) (Nat.zero_le _) (dk DX4_takeDoor_0 25 rfl) (.inr (.inr (.inl ⟨_, rfl, (by first | exact Or.inl rfl | exact Or.inr rfl | assumption), rfl, rfl, rfl⟩))) rfl ⟨rfl, ⟨by first | (simp [c_5, c_22, rTdB, rTdT, rTdK]; done) | (simp_all [rTdB, rTdT, rTdK]; done), by first | (simp [c_5, c_22, rTdB, rTdT, rTdK]; done) | (simp [c_5, c_22, rTdB, rTdT, rTdK]; rfl) | (simp_all [rTdB, rTdT, rTdK]; done) | (simp_all [rTdB, rTdT, rTdK]; rfl)⟩⟩
    · refine st_iconst C (v := 0) (dk DX4_takeDoor_0 12 rfl) (by decide) ?_
      exact Rr 0 0 _ _ _ _ _ _ (Nat.zero_le _) (Nat.zero_le _) (dk DX4_takeDoor_0 13 rfl) (.inr (.inr (.inl ⟨_, rfl, (by first | exact Or.inl rfl | exact Or.inr rfl | assumption), rfl, rfl, rfl⟩))) rfl ⟨rfl, ⟨by first | (simp [c_5, c_22, rTdB, rTdT, rTdK]; done) | (simp_all [rTdB, rTdT, rTdK]; done), by first | (simp [c_5, c_22, rTdB, rTdT, rTdK]; done) | (simp [c_5, c_22, rTdB, rTdT, rTdK]; rfl) | (simp_all [rTdB, rTdT, rTdK]; done) | (simp_all [rTdB, rTdT, rTdK]; rfl)⟩⟩
  · refine st_aload_n C (dk DX4_takeDoor_0 4 rfl) rfl ?_
    refine st_get C fl_RX4_22 (dk DX4_takeDoor_0 5 rfl) 0 rfl rfl ?_
    refine st_iconst C (v := 2) (dk DX4_takeDoor_0 6 rfl) (by decide) ?_
    refine st_icmp_ne C (tgt := 25) (dk DX4_takeDoor_0 7 rfl) (by decide) (fun c_13 => ?_) (fun c_13 => ?_)
    · refine st_iconst C (v := 0) (dk DX4_takeDoor_0 12 rfl) (by decide) ?_
      exact Rr 0 0 _ _ _ _ _ _ (Nat.zero_le _) (Nat.zero_le _) (dk DX4_takeDoor_0 13 rfl) (.inr (.inr (.inl ⟨_, rfl, (by first | exact Or.inl rfl | exact Or.inr rfl | assumption), rfl, rfl, rfl⟩))) rfl ⟨rfl, ⟨by first | (simp [c_5, c_13, rTdB, rTdT, rTdK]; done) | (simp_all [rTdB, rTdT, rTdK]; done), by first | (simp [c_5, c_13, rTdB, rTdT, rTdK]; done) | (simp [c_5, c_13, rTdB, rTdT, rTdK]; rfl) | (simp_all [rTdB, rTdT, rTdK]; done) | (simp_all [rTdB, rTdT, rTdK]; rfl)⟩⟩
    · refine st_aload_n C (dk DX4_takeDoor_0 8 rfl) rfl ?_
      refine st_get C fl_RX4_19 (dk DX4_takeDoor_0 9 rfl) 0 rfl rfl ?_
      refine st_bipush C (v := 16) (dk DX4_takeDoor_0 10 rfl) (by decide) ?_
      refine st_icmp_lt C (tgt := 27) (dk DX4_takeDoor_0 11 rfl) (by decide) (fun c_22 => ?_) (fun c_22 => ?_)
      · refine st_aload_n C (dk DX4_takeDoor_0 14 rfl) rfl ?_
        refine st_aload_n C (dk DX4_takeDoor_0 15 rfl) rfl ?_
        refine st_get C fl_RX4_19 (dk DX4_takeDoor_0 16 rfl) 0 rfl rfl ?_
        refine st_iconst C (v := 1) (dk DX4_takeDoor_0 17 rfl) (by decide) ?_
        refine st_isub C (dk DX4_takeDoor_0 18 rfl) ?_
        refine st_iload_n C (dk DX4_takeDoor_0 19 rfl) rfl ?_
        refine st_cV C (k_X1_setLock l G) mf_X1_setLock mi_X1_setLock ml_RX4_56 (dk DX4_takeDoor_0 20 rfl) [1, 2] rfl rfl rfl rfl (Nat.le_of_ble_eq_true rfl) rfl rfl ⟨Nat.le_of_ble_eq_true rfl, Nat.le_of_ble_eq_true rfl⟩ ⟨Nat.zero_le _, Nat.zero_le _⟩ (fun r9 w9 hq9 => ?_)
        obtain ⟨rfl, rfl⟩ := hq9
        refine st_aload_n C (dk DX4_takeDoor_0 21 rfl) rfl ?_
        refine st_iconst C (v := 3) (dk DX4_takeDoor_0 22 rfl) (by decide) ?_
        refine st_put C fl_RX4_22 fc_3 fw_3_3 (dk DX4_takeDoor_0 23 rfl) 0 rfl rfl rfl (Nat.le_of_ble_eq_true rfl) ?_
        refine st_iconst C (v := 1) (dk DX4_takeDoor_0 24 rfl) (by decide) ?_
        exact Rr 0 0 _ _ _ _ _ _ (Nat.zero_le _) (Nat.zero_le _) (dk DX4_takeDoor_0 25 rfl) (.inr (.inr (.inl ⟨_, rfl, (by first | exact Or.inl rfl | exact Or.inr rfl | assumption), rfl, rfl, rfl⟩))) rfl ⟨rfl, ⟨by first | (simp [c_5, c_13, c_22, rTdB, rTdT, rTdK]; done) | (simp_all [rTdB, rTdT, rTdK]; done), by first | (simp [c_5, c_13, c_22, rTdB, rTdT, rTdK]; done) | (simp [c_5, c_13, c_22, rTdB, rTdT, rTdK]; rfl) | (simp_all [rTdB, rTdT, rTdK]; done) | (simp_all [rTdB, rTdT, rTdK]; rfl)⟩⟩
      · refine st_iconst C (v := 0) (dk DX4_takeDoor_0 12 rfl) (by decide) ?_
        exact Rr 0 0 _ _ _ _ _ _ (Nat.zero_le _) (Nat.zero_le _) (dk DX4_takeDoor_0 13 rfl) (.inr (.inr (.inl ⟨_, rfl, (by first | exact Or.inl rfl | exact Or.inr rfl | assumption), rfl, rfl, rfl⟩))) rfl ⟨rfl, ⟨by first | (simp [c_5, c_13, c_22, rTdB, rTdT, rTdK]; done) | (simp_all [rTdB, rTdT, rTdK]; done), by first | (simp [c_5, c_13, c_22, rTdB, rTdT, rTdK]; done) | (simp [c_5, c_13, c_22, rTdB, rTdT, rTdK]; rfl) | (simp_all [rTdB, rTdT, rTdK]; done) | (simp_all [rTdB, rTdT, rTdK]; rfl)⟩⟩
