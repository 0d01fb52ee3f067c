/-! contracts of Text.take and of the saves -/
set_option maxHeartbeats 4000000 in
set_option maxRecDepth 100000 in
theorem k_X4_take (l : Launch) (G : wG) {y y1 : Nat} {tl ce la : Int32} {p q1 q2 : Nat} {fb sb co le sp sw dp : Int32} {lk ld : Nat → Int32} {c : Int32} : Con0 l G yX4_take cX4_take 3 (some .boolean) 3 [.ref y, .int c, .ref p] [(y, ob 3 (tF y1 tl ce la)), (p, ob 0 (cF q1 q2 fb sb co le sp sw dp)), (q1, aI G 15 lk), (q2, aI G 16 ld)] (fun r w => r = some (.int (rTB c ce la fb sb)) ∧ w = [(y, ob 3 (rTT y1 c tl ce la fb sb)), (p, ob 0 (rTC q1 q2 fb sb co le sp sw dp c ce)), (q1, aI G 15 (rTK lk c ce la)), (q2, aI G 16 (rTD ld c ce la))]) := by
  refine Con.mk (by decide +kernel) (Nat.le_of_ble_eq_true rfl) (fun P C Rr => ?_)
  refine st_iload_n C (dk DX4_take_0 0 rfl) rfl ?_
  refine st_bipush C (v := 46) (dk DX4_take_0 1 rfl) (by decide) ?_
  refine st_icmp_eq C (tgt := 18) (dk DX4_take_0 2 rfl) (by decide) (fun c_3 => ?_) (fun c_3 => ?_)
  · refine st_aload_n C (dk DX4_take_0 9 rfl) rfl ?_
    refine st_iload_n C (dk DX4_take_0 10 rfl) rfl ?_
    refine st_bipush C (v := 46) (dk DX4_take_0 11 rfl) (by decide) ?_
    refine st_icmp_ne C (tgt := 29) (dk DX4_take_0 12 rfl) (by decide) (fun c_22 => ?_) (fun c_22 => ?_)
    · exact absurd (show c = 46 by assumption) c_22
    · refine st_iconst C (v := 0) (dk DX4_take_0 13 rfl) (by decide) ?_
      refine st_goto C (tgt := 33) (dk DX4_take_0 14 rfl) (by decide) ?_
      refine st_aload_n C (dk DX4_take_0 18 rfl) rfl ?_
      refine st_cV C (k_X4_takeKey l G) mf_X4_takeKey mi_X4_takeKey ml_RX4_33 (dk DX4_take_0 19 rfl) [0, 1] rfl rfl rfl rfl (Nat.le_of_ble_eq_true rfl) rfl rfl ⟨Nat.le_of_ble_eq_true rfl, Nat.le_of_ble_eq_true rfl⟩ ⟨Nat.zero_le _, Nat.zero_le _⟩ (fun r9 w9 hq9 => ?_)
      obtain ⟨rfl, rfl⟩ := hq9
      refine Rr 0 0 _ _ _ _ _ _ (Nat.zero_le _) (Nat.zero_le _) (dk DX4_take_0 20 rfl) (.inr (.inr (.inl ⟨_, rfl, (by first | exact Or.inl rfl | exact Or.inr rfl | exact rTkB_01 _ _ _ _ | exact rTlB_01 _ | exact rTdB_01 _ _), rfl, rfl, rfl⟩))) rfl ?_
      have hk : rKind c = 0 := by first | (simp [rKind, c_3, c_22]; done) | (simp_all [rKind]; done)
      have hy : rKey c = 0 := by first | (simp [rKey, c_3, c_22]; done) | (simp_all [rKey]; done)
      refine ⟨rfl, by rw [rTB, hk, hy]; rfl, ?_⟩
      rw [rTT, rTC, rTK, rTD, hk, hy]
      rfl
  · refine st_iload_n C (dk DX4_take_0 3 rfl) rfl ?_
    refine st_bipush C (v := 49) (dk DX4_take_0 4 rfl) (by decide) ?_
    refine st_icmp_lt C (tgt := 38) (dk DX4_take_0 5 rfl) (by decide) (fun c_9 => ?_) (fun c_9 => ?_)
    · refine st_iload_n C (dk DX4_take_0 21 rfl) rfl ?_
      refine st_bipush C (v := 124) (dk DX4_take_0 22 rfl) (by decide) ?_
      refine st_icmp_ne C (tgt := 50) (dk DX4_take_0 23 rfl) (by decide) (fun c_41 => ?_) (fun c_41 => ?_)
      · refine st_iload_n C (dk DX4_take_0 28 rfl) rfl ?_
        refine st_bipush C (v := 97) (dk DX4_take_0 29 rfl) (by decide) ?_
        refine st_icmp_lt C (tgt := 80) (dk DX4_take_0 30 rfl) (by decide) (fun c_53 => ?_) (fun c_53 => ?_)
        · refine st_iconst C (v := 0) (dk DX4_take_1 5 rfl) (by decide) ?_
          refine Rr 0 0 _ _ _ _ _ _ (Nat.zero_le _) (Nat.zero_le _) (dk DX4_take_1 6 rfl) (.inr (.inr (.inl ⟨_, rfl, (by first | exact Or.inl rfl | exact Or.inr rfl | exact rTkB_01 _ _ _ _ | exact rTlB_01 _ | exact rTdB_01 _ _), rfl, rfl, rfl⟩))) rfl ?_
          have hk : rKind c = 3 := by first | (simp [rKind, c_3, c_9, c_41, c_53]; done) | (simp_all [rKind]; done)
          refine ⟨rfl, by rw [rTB, hk]; rfl, ?_⟩
          rw [rTT, rTC, rTK, rTD, hk]
          rfl
        · refine st_iload_n C (dk DX4_take_0 31 rfl) rfl ?_
          refine st_bipush C (v := 101) (dk DX4_take_0 32 rfl) (by decide) ?_
          refine st_icmp_gt C (tgt := 80) (dk DX4_take_0 33 rfl) (by decide) (fun c_59 => ?_) (fun c_59 => ?_)
          · refine st_iconst C (v := 0) (dk DX4_take_1 5 rfl) (by decide) ?_
            refine Rr 0 0 _ _ _ _ _ _ (Nat.zero_le _) (Nat.zero_le _) (dk DX4_take_1 6 rfl) (.inr (.inr (.inl ⟨_, rfl, (by first | exact Or.inl rfl | exact Or.inr rfl | exact rTkB_01 _ _ _ _ | exact rTlB_01 _ | exact rTdB_01 _ _), rfl, rfl, rfl⟩))) rfl ?_
            have hk : rKind c = 3 := by first | (simp [rKind, c_3, c_9, c_41, c_53, c_59]; done) | (simp_all [rKind]; done)
            refine ⟨rfl, by rw [rTB, hk]; rfl, ?_⟩
            rw [rTT, rTC, rTK, rTD, hk]
            rfl
          · refine st_aload_n C (dk DX4_take_0 34 rfl) rfl ?_
            refine st_iload_n C (dk DX4_take_0 35 rfl) rfl ?_
            refine st_bipush C (v := 97) (dk DX4_take_0 36 rfl) (by decide) ?_
            refine st_isub C (dk DX4_take_0 37 rfl) ?_
            refine st_iconst C (v := 1) (dk DX4_take_0 38 rfl) (by decide) ?_
            refine st_iadd C (dk DX4_take_0 39 rfl) ?_
            refine st_aload_n C (dk DX4_take_1 0 rfl) rfl ?_
            refine st_cV C (k_X4_takeDoor l G) mf_X4_takeDoor mi_X4_takeDoor ml_RX4_40 (dk DX4_take_1 1 rfl) [0, 1, 2] rfl rfl rfl rfl (Nat.le_of_ble_eq_true rfl) rfl rfl ⟨Nat.le_of_ble_eq_true rfl, Nat.le_of_ble_eq_true rfl⟩ ⟨Nat.zero_le _, Nat.zero_le _⟩ (fun r9 w9 hq9 => ?_)
            obtain ⟨rfl, rfl⟩ := hq9
            refine st_if_eq C (tgt := 80) (dk DX4_take_1 2 rfl) (by decide) (fun c_73 => ?_) (fun c_73 => ?_)
            · refine st_iconst C (v := 0) (dk DX4_take_1 5 rfl) (by decide) ?_
              refine Rr 0 0 _ _ _ _ _ _ (Nat.zero_le _) (Nat.zero_le _) (dk DX4_take_1 6 rfl) (.inr (.inr (.inl ⟨_, rfl, (by first | exact Or.inl rfl | exact Or.inr rfl | exact rTkB_01 _ _ _ _ | exact rTlB_01 _ | exact rTdB_01 _ _), rfl, rfl, rfl⟩))) rfl ?_
              have hk : rKind c = 2 := by first | (simp [rKind, c_3, c_9, c_41, c_53, c_59, c_73]; done) | (simp_all [rKind]; done)
              refine ⟨rfl, by rw [rTB, hk]; exact congrArg (fun z => some (Value.int z)) c_73.symm, ?_⟩
              rw [rTT, rTC, rTK, rTD, hk]
              rfl
            · refine st_iconst C (v := 1) (dk DX4_take_1 3 rfl) (by decide) ?_
              refine st_goto C (tgt := 81) (dk DX4_take_1 4 rfl) (by decide) ?_
              refine Rr 0 0 _ _ _ _ _ _ (Nat.zero_le _) (Nat.zero_le _) (dk DX4_take_1 6 rfl) (.inr (.inr (.inl ⟨_, rfl, (by first | exact Or.inl rfl | exact Or.inr rfl | exact rTkB_01 _ _ _ _ | exact rTlB_01 _ | exact rTdB_01 _ _), rfl, rfl, rfl⟩))) rfl ?_
              have hk : rKind c = 2 := by first | (simp [rKind, c_3, c_9, c_41, c_53, c_59, c_73]; done) | (simp_all [rKind]; done)
              refine ⟨rfl, by rw [rTB, hk]; exact congrArg (fun z => some (Value.int z)) (rTdB_1 c_73).symm, ?_⟩
              rw [rTT, rTC, rTK, rTD, hk]
              rfl
      · refine st_aload_n C (dk DX4_take_0 24 rfl) rfl ?_
        refine st_aload_n C (dk DX4_take_0 25 rfl) rfl ?_
        refine st_cV C (k_X4_takeLadder l G) mf_X4_takeLadder mi_X4_takeLadder ml_RX4_36 (dk DX4_take_0 26 rfl) [0, 1, 3] rfl rfl rfl rfl (Nat.le_of_ble_eq_true rfl) rfl rfl ⟨Nat.le_of_ble_eq_true rfl, Nat.le_of_ble_eq_true rfl⟩ ⟨Nat.zero_le _, Nat.zero_le _⟩ (fun r9 w9 hq9 => ?_)
        obtain ⟨rfl, rfl⟩ := hq9
        refine Rr 0 0 _ _ _ _ _ _ (Nat.zero_le _) (Nat.zero_le _) (dk DX4_take_0 27 rfl) (.inr (.inr (.inl ⟨_, rfl, (by first | exact Or.inl rfl | exact Or.inr rfl | exact rTkB_01 _ _ _ _ | exact rTlB_01 _ | exact rTdB_01 _ _), rfl, rfl, rfl⟩))) rfl ?_
        have hk : rKind c = 1 := by first | (simp [rKind, c_3, c_9, c_41]; done) | (simp_all [rKind]; done)
        refine ⟨rfl, by rw [rTB, hk]; rfl, ?_⟩
        rw [rTT, rTC, rTK, rTD, hk]
        rfl
    · refine st_iload_n C (dk DX4_take_0 6 rfl) rfl ?_
      refine st_bipush C (v := 53) (dk DX4_take_0 7 rfl) (by decide) ?_
      refine st_icmp_gt C (tgt := 38) (dk DX4_take_0 8 rfl) (by decide) (fun c_15 => ?_) (fun c_15 => ?_)
      · refine st_iload_n C (dk DX4_take_0 21 rfl) rfl ?_
        refine st_bipush C (v := 124) (dk DX4_take_0 22 rfl) (by decide) ?_
        refine st_icmp_ne C (tgt := 50) (dk DX4_take_0 23 rfl) (by decide) (fun c_41 => ?_) (fun c_41 => ?_)
        · refine st_iload_n C (dk DX4_take_0 28 rfl) rfl ?_
          refine st_bipush C (v := 97) (dk DX4_take_0 29 rfl) (by decide) ?_
          refine st_icmp_lt C (tgt := 80) (dk DX4_take_0 30 rfl) (by decide) (fun c_53 => ?_) (fun c_53 => ?_)
          · refine st_iconst C (v := 0) (dk DX4_take_1 5 rfl) (by decide) ?_
            refine Rr 0 0 _ _ _ _ _ _ (Nat.zero_le _) (Nat.zero_le _) (dk DX4_take_1 6 rfl) (.inr (.inr (.inl ⟨_, rfl, (by first | exact Or.inl rfl | exact Or.inr rfl | exact rTkB_01 _ _ _ _ | exact rTlB_01 _ | exact rTdB_01 _ _), rfl, rfl, rfl⟩))) rfl ?_
            have hk : rKind c = 3 := by first | (simp [rKind, c_3, c_9, c_15, c_41, c_53]; done) | (simp_all [rKind]; done)
            refine ⟨rfl, by rw [rTB, hk]; rfl, ?_⟩
            rw [rTT, rTC, rTK, rTD, hk]
            rfl
          · refine st_iload_n C (dk DX4_take_0 31 rfl) rfl ?_
            refine st_bipush C (v := 101) (dk DX4_take_0 32 rfl) (by decide) ?_
            refine st_icmp_gt C (tgt := 80) (dk DX4_take_0 33 rfl) (by decide) (fun c_59 => ?_) (fun c_59 => ?_)
            · refine st_iconst C (v := 0) (dk DX4_take_1 5 rfl) (by decide) ?_
              refine Rr 0 0 _ _ _ _ _ _ (Nat.zero_le _) (Nat.zero_le _) (dk DX4_take_1 6 rfl) (.inr (.inr (.inl ⟨_, rfl, (by first | exact Or.inl rfl | exact Or.inr rfl | exact rTkB_01 _ _ _ _ | exact rTlB_01 _ | exact rTdB_01 _ _), rfl, rfl, rfl⟩))) rfl ?_
              have hk : rKind c = 3 := by first | (simp [rKind, c_3, c_9, c_15, c_41, c_53, c_59]; done) | (simp_all [rKind]; done)
              refine ⟨rfl, by rw [rTB, hk]; rfl, ?_⟩
              rw [rTT, rTC, rTK, rTD, hk]
              rfl
            · refine st_aload_n C (dk DX4_take_0 34 rfl) rfl ?_
              refine st_iload_n C (dk DX4_take_0 35 rfl) rfl ?_
              refine st_bipush C (v := 97) (dk DX4_take_0 36 rfl) (by decide) ?_
              refine st_isub C (dk DX4_take_0 37 rfl) ?_
              refine st_iconst C (v := 1) (dk DX4_take_0 38 rfl) (by decide) ?_
              refine st_iadd C (dk DX4_take_0 39 rfl) ?_
              refine st_aload_n C (dk DX4_take_1 0 rfl) rfl ?_
              refine st_cV C (k_X4_takeDoor l G) mf_X4_takeDoor mi_X4_takeDoor ml_RX4_40 (dk DX4_take_1 1 rfl) [0, 1, 2] rfl rfl rfl rfl (Nat.le_of_ble_eq_true rfl) rfl rfl ⟨Nat.le_of_ble_eq_true rfl, Nat.le_of_ble_eq_true rfl⟩ ⟨Nat.zero_le _, Nat.zero_le _⟩ (fun r9 w9 hq9 => ?_)
              obtain ⟨rfl, rfl⟩ := hq9
              refine st_if_eq C (tgt := 80) (dk DX4_take_1 2 rfl) (by decide) (fun c_73 => ?_) (fun c_73 => ?_)
              · refine st_iconst C (v := 0) (dk DX4_take_1 5 rfl) (by decide) ?_
                refine Rr 0 0 _ _ _ _ _ _ (Nat.zero_le _) (Nat.zero_le _) (dk DX4_take_1 6 rfl) (.inr (.inr (.inl ⟨_, rfl, (by first | exact Or.inl rfl | exact Or.inr rfl | exact rTkB_01 _ _ _ _ | exact rTlB_01 _ | exact rTdB_01 _ _), rfl, rfl, rfl⟩))) rfl ?_
                have hk : rKind c = 2 := by first | (simp [rKind, c_3, c_9, c_15, c_41, c_53, c_59, c_73]; done) | (simp_all [rKind]; done)
                refine ⟨rfl, by rw [rTB, hk]; exact congrArg (fun z => some (Value.int z)) c_73.symm, ?_⟩
                rw [rTT, rTC, rTK, rTD, hk]
                rfl
              · refine st_iconst C (v := 1) (dk DX4_take_1 3 rfl) (by decide) ?_
                refine st_goto C (tgt := 81) (dk DX4_take_1 4 rfl) (by decide) ?_
                refine Rr 0 0 _ _ _ _ _ _ (Nat.zero_le _) (Nat.zero_le _) (dk DX4_take_1 6 rfl) (.inr (.inr (.inl ⟨_, rfl, (by first | exact Or.inl rfl | exact Or.inr rfl | exact rTkB_01 _ _ _ _ | exact rTlB_01 _ | exact rTdB_01 _ _), rfl, rfl, rfl⟩))) rfl ?_
                have hk : rKind c = 2 := by first | (simp [rKind, c_3, c_9, c_15, c_41, c_53, c_59, c_73]; done) | (simp_all [rKind]; done)
                refine ⟨rfl, by rw [rTB, hk]; exact congrArg (fun z => some (Value.int z)) (rTdB_1 c_73).symm, ?_⟩
                rw [rTT, rTC, rTK, rTD, hk]
                rfl
        · refine st_aload_n C (dk DX4_take_0 24 rfl) rfl ?_
          refine st_aload_n C (dk DX4_take_0 25 rfl) rfl ?_
          refine st_cV C (k_X4_takeLadder l G) mf_X4_takeLadder mi_X4_takeLadder ml_RX4_36 (dk DX4_take_0 26 rfl) [0, 1, 3] rfl rfl rfl rfl (Nat.le_of_ble_eq_true rfl) rfl rfl ⟨Nat.le_of_ble_eq_true rfl, Nat.le_of_ble_eq_true rfl⟩ ⟨Nat.zero_le _, Nat.zero_le _⟩ (fun r9 w9 hq9 => ?_)
          obtain ⟨rfl, rfl⟩ := hq9
          refine Rr 0 0 _ _ _ _ _ _ (Nat.zero_le _) (Nat.zero_le _) (dk DX4_take_0 27 rfl) (.inr (.inr (.inl ⟨_, rfl, (by first | exact Or.inl rfl | exact Or.inr rfl | exact rTkB_01 _ _ _ _ | exact rTlB_01 _ | exact rTdB_01 _ _), rfl, rfl, rfl⟩))) rfl ?_
          have hk : rKind c = 1 := by first | (simp [rKind, c_3, c_9, c_15, c_41]; done) | (simp_all [rKind]; done)
          refine ⟨rfl, by rw [rTB, hk]; rfl, ?_⟩
          rw [rTT, rTC, rTK, rTD, hk]
          rfl
      · refine st_aload_n C (dk DX4_take_0 9 rfl) rfl ?_
        refine st_iload_n C (dk DX4_take_0 10 rfl) rfl ?_
        refine st_bipush C (v := 46) (dk DX4_take_0 11 rfl) (by decide) ?_
        refine st_icmp_ne C (tgt := 29) (dk DX4_take_0 12 rfl) (by decide) (fun c_22 => ?_) (fun c_22 => ?_)
        · refine st_iload_n C (dk DX4_take_0 15 rfl) rfl ?_
          refine st_bipush C (v := 48) (dk DX4_take_0 16 rfl) (by decide) ?_
          refine st_isub C (dk DX4_take_0 17 rfl) ?_
          refine st_aload_n C (dk DX4_take_0 18 rfl) rfl ?_
          refine st_cV C (k_X4_takeKey l G) mf_X4_takeKey mi_X4_takeKey ml_RX4_33 (dk DX4_take_0 19 rfl) [0, 1] rfl rfl rfl rfl (Nat.le_of_ble_eq_true rfl) rfl rfl ⟨Nat.le_of_ble_eq_true rfl, Nat.le_of_ble_eq_true rfl⟩ ⟨Nat.zero_le _, Nat.zero_le _⟩ (fun r9 w9 hq9 => ?_)
          obtain ⟨rfl, rfl⟩ := hq9
          refine Rr 0 0 _ _ _ _ _ _ (Nat.zero_le _) (Nat.zero_le _) (dk DX4_take_0 20 rfl) (.inr (.inr (.inl ⟨_, rfl, (by first | exact Or.inl rfl | exact Or.inr rfl | exact rTkB_01 _ _ _ _ | exact rTlB_01 _ | exact rTdB_01 _ _), rfl, rfl, rfl⟩))) rfl ?_
          have hk : rKind c = 0 := by first | (simp [rKind, c_3, c_9, c_15, c_22]; done) | (simp_all [rKind]; done)
          have hy : rKey c = c - 48 := by first | (simp [rKey, c_3, c_9, c_15, c_22]; done) | (simp_all [rKey]; done)
          refine ⟨rfl, by rw [rTB, hk, hy]; rfl, ?_⟩
          rw [rTT, rTC, rTK, rTD, hk, hy]
          rfl
        · exact absurd c_22 (by assumption)
set_option maxHeartbeats 4000000 in
set_option maxRecDepth 100000 in
theorem k_X2_slotAt (l : Launch) (G : wG) {v v1 : Nat} {nx sz : Int32} {f : Nat → Option Nat} {x : Int32} {j b : Nat} (hx : x = nI j) (hj : j < 6) (hf : f j = some b) : Con0 l G yX2_slotAt cX2_slotAt 2 (some (.object "FoldedKeys$Corridor")) 0 [.ref v, .int x] [(v, ob 1 (vF v1 nx sz)), (v1, aQ G 6 f)] (fun r w => r = some (.ref b) ∧ w = [(v, ob 1 (vF v1 nx sz)), (v1, aQ G 6 f)]) := by
  refine Con.mk (by decide +kernel) (Nat.le_of_ble_eq_true rfl) (fun P C Rr => ?_)
  refine st_iload_n C (dk DX2_slotAt_0 0 rfl) rfl ?_
  refine st_if_lt C (tgt := 19) (dk DX2_slotAt_0 1 rfl) (by decide) (fun c_1 => ?_) (fun c_1 => ?_)
  · exact absurd c_1 (by rw [hx]; exact nI_pos (by omega))
  · refine st_iload_n C (dk DX2_slotAt_0 2 rfl) rfl ?_
    refine st_bipush C (v := 6) (dk DX2_slotAt_0 3 rfl) (by decide) ?_
    refine st_icmp_ge C (tgt := 19) (dk DX2_slotAt_0 4 rfl) (by decide) (fun c_7 => ?_) (fun c_7 => ?_)
    · exact absurd ((ge_nI (a := 6) (i := j) (by decide) (by omega) rfl hx).mp c_7) (by omega)
    · refine st_aload_n C (dk DX2_slotAt_0 5 rfl) rfl ?_
      refine st_get C fl_RX2_11 (dk DX2_slotAt_0 6 rfl) 0 rfl rfl ?_
      refine st_iload_n C (dk DX2_slotAt_0 7 rfl) rfl ?_
      refine st_aald C (dk DX2_slotAt_0 8 rfl) 1 rfl (vp_nI hx hj (by decide)) (by rw [cl_nI hx (by omega)]; exact hf) ?_
      refine st_goto C (tgt := 20) (dk DX2_slotAt_0 9 rfl) (by decide) ?_
      exact Rr 0 0 _ _ _ _ _ _ (Nat.zero_le _) (Nat.zero_le _) (dk DX2_slotAt_0 11 rfl) (.inr (.inr (.inr (.inr (.inr ⟨_, _, rfl, rfl, rfl, rfl⟩))))) rfl ⟨rfl, ⟨rfl, rfl⟩⟩
set_option maxHeartbeats 4000000 in
set_option maxRecDepth 100000 in
theorem k_X2_push (l : Launch) (G : wG) {v v1 : Nat} {nx sz : Int32} {u u1 u2 : Nat → Nat} {rs : Nat → Nat → Int32} {rl rd : Nat → Nat → Int32} {p q1 q2 : Nat} {ns lk ld : Nat → Int32} {j : Nat} (hx : nx = nI j) (hj : j < 6) : Con0 l G yX2_push cX2_push 3 none 1 [.ref v, .ref p] [(v, ob 1 (vF v1 nx sz)), (v1, aQ G 6 (fun k => some (u k))), (u 0, ob 0 (cR (u1 0) (u2 0) (rs 0))), (u1 0, aI G 15 (rl 0)), (u2 0, aI G 16 (rd 0)), (u 1, ob 0 (cR (u1 1) (u2 1) (rs 1))), (u1 1, aI G 15 (rl 1)), (u2 1, aI G 16 (rd 1)), (u 2, ob 0 (cR (u1 2) (u2 2) (rs 2))), (u1 2, aI G 15 (rl 2)), (u2 2, aI G 16 (rd 2)), (u 3, ob 0 (cR (u1 3) (u2 3) (rs 3))), (u1 3, aI G 15 (rl 3)), (u2 3, aI G 16 (rd 3)), (u 4, ob 0 (cR (u1 4) (u2 4) (rs 4))), (u1 4, aI G 15 (rl 4)), (u2 4, aI G 16 (rd 4)), (u 5, ob 0 (cR (u1 5) (u2 5) (rs 5))), (u1 5, aI G 15 (rl 5)), (u2 5, aI G 16 (rd 5)), (p, ob 0 (cR q1 q2 ns)), (q1, aI G 15 lk), (q2, aI G 16 ld)] (fun r w => r = none ∧ ∃ lk3 ld3 : Nat → Int32, (∀ i, i < 15 → lk3 i = lk i) ∧ (∀ i, i < 16 → ld3 i = ld i) ∧ w = [(v, ob 1 (vF v1 (nx + 1 - (nx + 1) / 6 * 6) (rMin (sz + 1) 6))), (v1, aQ G 6 (fun k => some (u k))), (u 0, ob 0 (cR (u1 0) (u2 0) ((va_up rs j ns) 0))), (u1 0, aI G 15 ((va_up rl j lk3) 0)), (u2 0, aI G 16 ((va_up rd j ld3) 0)), (u 1, ob 0 (cR (u1 1) (u2 1) ((va_up rs j ns) 1))), (u1 1, aI G 15 ((va_up rl j lk3) 1)), (u2 1, aI G 16 ((va_up rd j ld3) 1)), (u 2, ob 0 (cR (u1 2) (u2 2) ((va_up rs j ns) 2))), (u1 2, aI G 15 ((va_up rl j lk3) 2)), (u2 2, aI G 16 ((va_up rd j ld3) 2)), (u 3, ob 0 (cR (u1 3) (u2 3) ((va_up rs j ns) 3))), (u1 3, aI G 15 ((va_up rl j lk3) 3)), (u2 3, aI G 16 ((va_up rd j ld3) 3)), (u 4, ob 0 (cR (u1 4) (u2 4) ((va_up rs j ns) 4))), (u1 4, aI G 15 ((va_up rl j lk3) 4)), (u2 4, aI G 16 ((va_up rd j ld3) 4)), (u 5, ob 0 (cR (u1 5) (u2 5) ((va_up rs j ns) 5))), (u1 5, aI G 15 ((va_up rl j lk3) 5)), (u2 5, aI G 16 ((va_up rd j ld3) 5)), (p, ob 0 (cR q1 q2 ns)), (q1, aI G 15 lk), (q2, aI G 16 ld)]) := by
  refine Con.mk (by decide +kernel) (Nat.le_of_ble_eq_true rfl) (fun P C Rr => ?_)
  have hj6 : j = 0 ∨ j = 1 ∨ j = 2 ∨ j = 3 ∨ j = 4 ∨ j = 5 := by omega
  rcases hj6 with rfl | rfl | rfl | rfl | rfl | rfl
  · refine st_aload_n C (dk DX2_push_0 0 rfl) rfl ?_
    refine st_aload_n C (dk DX2_push_0 1 rfl) rfl ?_
    refine st_get C fl_RX2_18 (dk DX2_push_0 2 rfl) 0 rfl rfl ?_
    refine st_cV C (k_X2_slotAt l G (f := fun k => some (u k)) hx (by decide : 0 < 6) rfl) mf_X2_slotAt mi_X2_slotAt ml_RX2_22 (dk DX2_push_0 3 rfl) [0, 1] rfl rfl rfl rfl (Nat.le_of_ble_eq_true rfl) rfl rfl ⟨Nat.le_of_ble_eq_true rfl, Nat.le_of_ble_eq_true rfl⟩ ⟨Nat.zero_le _, Nat.zero_le _⟩ (fun r9 w9 hq9 => ?_)
    obtain ⟨rfl, rfl⟩ := hq9
    refine st_astore_n C (dk DX2_push_0 4 rfl) (by decide) rfl ?_
    refine st_aload_n C (dk DX2_push_0 5 rfl) rfl ?_
    refine st_ifnonnull C (tgt := 14) (dk DX2_push_0 6 rfl) (by decide) ?_
    refine st_aload_n C (dk DX2_push_0 8 rfl) rfl ?_
    refine st_aload_n C (dk DX2_push_0 9 rfl) rfl ?_
    refine st_cV C (k_X1_copyFrom l G) mf_X1_copyFrom mi_X1_copyFrom ml_RX2_26 (dk DX2_push_0 10 rfl) [2, 3, 4, 20, 21, 22] rfl rfl rfl rfl (Nat.le_of_ble_eq_true rfl) rfl rfl ⟨Nat.le_of_ble_eq_true rfl, Nat.le_of_ble_eq_true rfl⟩ ⟨Nat.zero_le _, Nat.zero_le _⟩ (fun r9 w9 hq9 => ?_)
    obtain ⟨rfl, lk16, ld16, hlk16, hld16, rfl⟩ := hq9
    refine st_aload_n C (dk DX2_push_0 11 rfl) rfl ?_
    refine st_aload_n C (dk DX2_push_0 12 rfl) rfl ?_
    refine st_get C fl_RX2_18 (dk DX2_push_0 13 rfl) 0 rfl rfl ?_
    refine st_iconst C (v := 1) (dk DX2_push_0 14 rfl) (by decide) ?_
    refine st_iadd C (dk DX2_push_0 15 rfl) ?_
    refine st_bipush C (v := 6) (dk DX2_push_0 16 rfl) (by decide) ?_
    refine st_irem C (dk DX2_push_0 17 rfl) (by decide) ?_
    refine st_put C fl_RX2_18 fc_1 fw_1_1 (dk DX2_push_0 18 rfl) 0 rfl rfl rfl (Nat.le_of_ble_eq_true rfl) ?_
    refine st_aload_n C (dk DX2_push_0 19 rfl) rfl ?_
    refine st_aload_n C (dk DX2_push_0 20 rfl) rfl ?_
    refine st_get C fl_RX2_30 (dk DX2_push_0 21 rfl) 0 rfl rfl ?_
    refine st_iconst C (v := 1) (dk DX2_push_0 22 rfl) (by decide) ?_
    refine st_iadd C (dk DX2_push_0 23 rfl) ?_
    refine st_bipush C (v := 6) (dk DX2_push_0 24 rfl) (by decide) ?_
    refine st_min C (dk DX2_push_0 25 rfl) mk_RX2_33 (Nat.le_of_ble_eq_true rfl) ⟨Nat.le_of_ble_eq_true rfl, Nat.le_of_ble_eq_true rfl⟩ ⟨Nat.zero_le _, Nat.zero_le _⟩ ?_
    refine st_put C fl_RX2_30 fc_1 fw_1_2 (dk DX2_push_0 26 rfl) 0 rfl rfl rfl (Nat.le_of_ble_eq_true rfl) ?_
    exact Rr 0 0 _ _ _ _ _ _ (Nat.zero_le _) (Nat.zero_le _) (dk DX2_push_0 27 rfl) (.inl ⟨rfl, rfl, rfl, rfl⟩) rfl ⟨rfl, ⟨rfl, lk16, ld16, hlk16, hld16, rfl⟩⟩
  · refine st_aload_n C (dk DX2_push_0 0 rfl) rfl ?_
    refine st_aload_n C (dk DX2_push_0 1 rfl) rfl ?_
    refine st_get C fl_RX2_18 (dk DX2_push_0 2 rfl) 0 rfl rfl ?_
    refine st_cV C (k_X2_slotAt l G (f := fun k => some (u k)) hx (by decide : 1 < 6) rfl) mf_X2_slotAt mi_X2_slotAt ml_RX2_22 (dk DX2_push_0 3 rfl) [0, 1] rfl rfl rfl rfl (Nat.le_of_ble_eq_true rfl) rfl rfl ⟨Nat.le_of_ble_eq_true rfl, Nat.le_of_ble_eq_true rfl⟩ ⟨Nat.zero_le _, Nat.zero_le _⟩ (fun r9 w9 hq9 => ?_)
    obtain ⟨rfl, rfl⟩ := hq9
    refine st_astore_n C (dk DX2_push_0 4 rfl) (by decide) rfl ?_
    refine st_aload_n C (dk DX2_push_0 5 rfl) rfl ?_
    refine st_ifnonnull C (tgt := 14) (dk DX2_push_0 6 rfl) (by decide) ?_
    refine st_aload_n C (dk DX2_push_0 8 rfl) rfl ?_
    refine st_aload_n C (dk DX2_push_0 9 rfl) rfl ?_
    refine st_cV C (k_X1_copyFrom l G) mf_X1_copyFrom mi_X1_copyFrom ml_RX2_26 (dk DX2_push_0 10 rfl) [5, 6, 7, 20, 21, 22] rfl rfl rfl rfl (Nat.le_of_ble_eq_true rfl) rfl rfl ⟨Nat.le_of_ble_eq_true rfl, Nat.le_of_ble_eq_true rfl⟩ ⟨Nat.zero_le _, Nat.zero_le _⟩ (fun r9 w9 hq9 => ?_)
    obtain ⟨rfl, lk16, ld16, hlk16, hld16, rfl⟩ := hq9
    refine st_aload_n C (dk DX2_push_0 11 rfl) rfl ?_
    refine st_aload_n C (dk DX2_push_0 12 rfl) rfl ?_
    refine st_get C fl_RX2_18 (dk DX2_push_0 13 rfl) 0 rfl rfl ?_
    refine st_iconst C (v := 1) (dk DX2_push_0 14 rfl) (by decide) ?_
    refine st_iadd C (dk DX2_push_0 15 rfl) ?_
    refine st_bipush C (v := 6) (dk DX2_push_0 16 rfl) (by decide) ?_
    refine st_irem C (dk DX2_push_0 17 rfl) (by decide) ?_
    refine st_put C fl_RX2_18 fc_1 fw_1_1 (dk DX2_push_0 18 rfl) 0 rfl rfl rfl (Nat.le_of_ble_eq_true rfl) ?_
    refine st_aload_n C (dk DX2_push_0 19 rfl) rfl ?_
    refine st_aload_n C (dk DX2_push_0 20 rfl) rfl ?_
    refine st_get C fl_RX2_30 (dk DX2_push_0 21 rfl) 0 rfl rfl ?_
    refine st_iconst C (v := 1) (dk DX2_push_0 22 rfl) (by decide) ?_
    refine st_iadd C (dk DX2_push_0 23 rfl) ?_
    refine st_bipush C (v := 6) (dk DX2_push_0 24 rfl) (by decide) ?_
    refine st_min C (dk DX2_push_0 25 rfl) mk_RX2_33 (Nat.le_of_ble_eq_true rfl) ⟨Nat.le_of_ble_eq_true rfl, Nat.le_of_ble_eq_true rfl⟩ ⟨Nat.zero_le _, Nat.zero_le _⟩ ?_
    refine st_put C fl_RX2_30 fc_1 fw_1_2 (dk DX2_push_0 26 rfl) 0 rfl rfl rfl (Nat.le_of_ble_eq_true rfl) ?_
    exact Rr 0 0 _ _ _ _ _ _ (Nat.zero_le _) (Nat.zero_le _) (dk DX2_push_0 27 rfl) (.inl ⟨rfl, rfl, rfl, rfl⟩) rfl ⟨rfl, ⟨rfl, lk16, ld16, hlk16, hld16, rfl⟩⟩
  · refine st_aload_n C (dk DX2_push_0 0 rfl) rfl ?_
    refine st_aload_n C (dk DX2_push_0 1 rfl) rfl ?_
    refine st_get C fl_RX2_18 (dk DX2_push_0 2 rfl) 0 rfl rfl ?_
    refine st_cV C (k_X2_slotAt l G (f := fun k => some (u k)) hx (by decide : 2 < 6) rfl) mf_X2_slotAt mi_X2_slotAt ml_RX2_22 (dk DX2_push_0 3 rfl) [0, 1] rfl rfl rfl rfl (Nat.le_of_ble_eq_true rfl) rfl rfl ⟨Nat.le_of_ble_eq_true rfl, Nat.le_of_ble_eq_true rfl⟩ ⟨Nat.zero_le _, Nat.zero_le _⟩ (fun r9 w9 hq9 => ?_)
    obtain ⟨rfl, rfl⟩ := hq9
    refine st_astore_n C (dk DX2_push_0 4 rfl) (by decide) rfl ?_
    refine st_aload_n C (dk DX2_push_0 5 rfl) rfl ?_
    refine st_ifnonnull C (tgt := 14) (dk DX2_push_0 6 rfl) (by decide) ?_
    refine st_aload_n C (dk DX2_push_0 8 rfl) rfl ?_
    refine st_aload_n C (dk DX2_push_0 9 rfl) rfl ?_
    refine st_cV C (k_X1_copyFrom l G) mf_X1_copyFrom mi_X1_copyFrom ml_RX2_26 (dk DX2_push_0 10 rfl) [8, 9, 10, 20, 21, 22] rfl rfl rfl rfl (Nat.le_of_ble_eq_true rfl) rfl rfl ⟨Nat.le_of_ble_eq_true rfl, Nat.le_of_ble_eq_true rfl⟩ ⟨Nat.zero_le _, Nat.zero_le _⟩ (fun r9 w9 hq9 => ?_)
    obtain ⟨rfl, lk16, ld16, hlk16, hld16, rfl⟩ := hq9
    refine st_aload_n C (dk DX2_push_0 11 rfl) rfl ?_
    refine st_aload_n C (dk DX2_push_0 12 rfl) rfl ?_
    refine st_get C fl_RX2_18 (dk DX2_push_0 13 rfl) 0 rfl rfl ?_
    refine st_iconst C (v := 1) (dk DX2_push_0 14 rfl) (by decide) ?_
    refine st_iadd C (dk DX2_push_0 15 rfl) ?_
    refine st_bipush C (v := 6) (dk DX2_push_0 16 rfl) (by decide) ?_
    refine st_irem C (dk DX2_push_0 17 rfl) (by decide) ?_
    refine st_put C fl_RX2_18 fc_1 fw_1_1 (dk DX2_push_0 18 rfl) 0 rfl rfl rfl (Nat.le_of_ble_eq_true rfl) ?_
    refine st_aload_n C (dk DX2_push_0 19 rfl) rfl ?_
    refine st_aload_n C (dk DX2_push_0 20 rfl) rfl ?_
    refine st_get C fl_RX2_30 (dk DX2_push_0 21 rfl) 0 rfl rfl ?_
    refine st_iconst C (v := 1) (dk DX2_push_0 22 rfl) (by decide) ?_
    refine st_iadd C (dk DX2_push_0 23 rfl) ?_
    refine st_bipush C (v := 6) (dk DX2_push_0 24 rfl) (by decide) ?_
    refine st_min C (dk DX2_push_0 25 rfl) mk_RX2_33 (Nat.le_of_ble_eq_true rfl) ⟨Nat.le_of_ble_eq_true rfl, Nat.le_of_ble_eq_true rfl⟩ ⟨Nat.zero_le _, Nat.zero_le _⟩ ?_
    refine st_put C fl_RX2_30 fc_1 fw_1_2 (dk DX2_push_0 26 rfl) 0 rfl rfl rfl (Nat.le_of_ble_eq_true rfl) ?_
    exact Rr 0 0 _ _ _ _ _ _ (Nat.zero_le _) (Nat.zero_le _) (dk DX2_push_0 27 rfl) (.inl ⟨rfl, rfl, rfl, rfl⟩) rfl ⟨rfl, ⟨rfl, lk16, ld16, hlk16, hld16, rfl⟩⟩
  · refine st_aload_n C (dk DX2_push_0 0 rfl) rfl ?_
    refine st_aload_n C (dk DX2_push_0 1 rfl) rfl ?_
    refine st_get C fl_RX2_18 (dk DX2_push_0 2 rfl) 0 rfl rfl ?_
    refine st_cV C (k_X2_slotAt l G (f := fun k => some (u k)) hx (by decide : 3 < 6) rfl) mf_X2_slotAt mi_X2_slotAt ml_RX2_22 (dk DX2_push_0 3 rfl) [0, 1] rfl rfl rfl rfl (Nat.le_of_ble_eq_true rfl) rfl rfl ⟨Nat.le_of_ble_eq_true rfl, Nat.le_of_ble_eq_true rfl⟩ ⟨Nat.zero_le _, Nat.zero_le _⟩ (fun r9 w9 hq9 => ?_)
    obtain ⟨rfl, rfl⟩ := hq9
    refine st_astore_n C (dk DX2_push_0 4 rfl) (by decide) rfl ?_
    refine st_aload_n C (dk DX2_push_0 5 rfl) rfl ?_
    refine st_ifnonnull C (tgt := 14) (dk DX2_push_0 6 rfl) (by decide) ?_
    refine st_aload_n C (dk DX2_push_0 8 rfl) rfl ?_
    refine st_aload_n C (dk DX2_push_0 9 rfl) rfl ?_
    refine st_cV C (k_X1_copyFrom l G) mf_X1_copyFrom mi_X1_copyFrom ml_RX2_26 (dk DX2_push_0 10 rfl) [11, 12, 13, 20, 21, 22] rfl rfl rfl rfl (Nat.le_of_ble_eq_true rfl) rfl rfl ⟨Nat.le_of_ble_eq_true rfl, Nat.le_of_ble_eq_true rfl⟩ ⟨Nat.zero_le _, Nat.zero_le _⟩ (fun r9 w9 hq9 => ?_)
    obtain ⟨rfl, lk16, ld16, hlk16, hld16, rfl⟩ := hq9
    refine st_aload_n C (dk DX2_push_0 11 rfl) rfl ?_
    refine st_aload_n C (dk DX2_push_0 12 rfl) rfl ?_
    refine st_get C fl_RX2_18 (dk DX2_push_0 13 rfl) 0 rfl rfl ?_
    refine st_iconst C (v := 1) (dk DX2_push_0 14 rfl) (by decide) ?_
    refine st_iadd C (dk DX2_push_0 15 rfl) ?_
    refine st_bipush C (v := 6) (dk DX2_push_0 16 rfl) (by decide) ?_
    refine st_irem C (dk DX2_push_0 17 rfl) (by decide) ?_
    refine st_put C fl_RX2_18 fc_1 fw_1_1 (dk DX2_push_0 18 rfl) 0 rfl rfl rfl (Nat.le_of_ble_eq_true rfl) ?_
    refine st_aload_n C (dk DX2_push_0 19 rfl) rfl ?_
    refine st_aload_n C (dk DX2_push_0 20 rfl) rfl ?_
    refine st_get C fl_RX2_30 (dk DX2_push_0 21 rfl) 0 rfl rfl ?_
    refine st_iconst C (v := 1) (dk DX2_push_0 22 rfl) (by decide) ?_
    refine st_iadd C (dk DX2_push_0 23 rfl) ?_
    refine st_bipush C (v := 6) (dk DX2_push_0 24 rfl) (by decide) ?_
    refine st_min C (dk DX2_push_0 25 rfl) mk_RX2_33 (Nat.le_of_ble_eq_true rfl) ⟨Nat.le_of_ble_eq_true rfl, Nat.le_of_ble_eq_true rfl⟩ ⟨Nat.zero_le _, Nat.zero_le _⟩ ?_
    refine st_put C fl_RX2_30 fc_1 fw_1_2 (dk DX2_push_0 26 rfl) 0 rfl rfl rfl (Nat.le_of_ble_eq_true rfl) ?_
    exact Rr 0 0 _ _ _ _ _ _ (Nat.zero_le _) (Nat.zero_le _) (dk DX2_push_0 27 rfl) (.inl ⟨rfl, rfl, rfl, rfl⟩) rfl ⟨rfl, ⟨rfl, lk16, ld16, hlk16, hld16, rfl⟩⟩
  · refine st_aload_n C (dk DX2_push_0 0 rfl) rfl ?_
    refine st_aload_n C (dk DX2_push_0 1 rfl) rfl ?_
    refine st_get C fl_RX2_18 (dk DX2_push_0 2 rfl) 0 rfl rfl ?_
    refine st_cV C (k_X2_slotAt l G (f := fun k => some (u k)) hx (by decide : 4 < 6) rfl) mf_X2_slotAt mi_X2_slotAt ml_RX2_22 (dk DX2_push_0 3 rfl) [0, 1] rfl rfl rfl rfl (Nat.le_of_ble_eq_true rfl) rfl rfl ⟨Nat.le_of_ble_eq_true rfl, Nat.le_of_ble_eq_true rfl⟩ ⟨Nat.zero_le _, Nat.zero_le _⟩ (fun r9 w9 hq9 => ?_)
    obtain ⟨rfl, rfl⟩ := hq9
    refine st_astore_n C (dk DX2_push_0 4 rfl) (by decide) rfl ?_
    refine st_aload_n C (dk DX2_push_0 5 rfl) rfl ?_
    refine st_ifnonnull C (tgt := 14) (dk DX2_push_0 6 rfl) (by decide) ?_
    refine st_aload_n C (dk DX2_push_0 8 rfl) rfl ?_
    refine st_aload_n C (dk DX2_push_0 9 rfl) rfl ?_
    refine st_cV C (k_X1_copyFrom l G) mf_X1_copyFrom mi_X1_copyFrom ml_RX2_26 (dk DX2_push_0 10 rfl) [14, 15, 16, 20, 21, 22] rfl rfl rfl rfl (Nat.le_of_ble_eq_true rfl) rfl rfl ⟨Nat.le_of_ble_eq_true rfl, Nat.le_of_ble_eq_true rfl⟩ ⟨Nat.zero_le _, Nat.zero_le _⟩ (fun r9 w9 hq9 => ?_)
    obtain ⟨rfl, lk16, ld16, hlk16, hld16, rfl⟩ := hq9
    refine st_aload_n C (dk DX2_push_0 11 rfl) rfl ?_
    refine st_aload_n C (dk DX2_push_0 12 rfl) rfl ?_
    refine st_get C fl_RX2_18 (dk DX2_push_0 13 rfl) 0 rfl rfl ?_
    refine st_iconst C (v := 1) (dk DX2_push_0 14 rfl) (by decide) ?_
    refine st_iadd C (dk DX2_push_0 15 rfl) ?_
    refine st_bipush C (v := 6) (dk DX2_push_0 16 rfl) (by decide) ?_
    refine st_irem C (dk DX2_push_0 17 rfl) (by decide) ?_
    refine st_put C fl_RX2_18 fc_1 fw_1_1 (dk DX2_push_0 18 rfl) 0 rfl rfl rfl (Nat.le_of_ble_eq_true rfl) ?_
    refine st_aload_n C (dk DX2_push_0 19 rfl) rfl ?_
    refine st_aload_n C (dk DX2_push_0 20 rfl) rfl ?_
    refine st_get C fl_RX2_30 (dk DX2_push_0 21 rfl) 0 rfl rfl ?_
    refine st_iconst C (v := 1) (dk DX2_push_0 22 rfl) (by decide) ?_
    refine st_iadd C (dk DX2_push_0 23 rfl) ?_
    refine st_bipush C (v := 6) (dk DX2_push_0 24 rfl) (by decide) ?_
    refine st_min C (dk DX2_push_0 25 rfl) mk_RX2_33 (Nat.le_of_ble_eq_true rfl) ⟨Nat.le_of_ble_eq_true rfl, Nat.le_of_ble_eq_true rfl⟩ ⟨Nat.zero_le _, Nat.zero_le _⟩ ?_
    refine st_put C fl_RX2_30 fc_1 fw_1_2 (dk DX2_push_0 26 rfl) 0 rfl rfl rfl (Nat.le_of_ble_eq_true rfl) ?_
    exact Rr 0 0 _ _ _ _ _ _ (Nat.zero_le _) (Nat.zero_le _) (dk DX2_push_0 27 rfl) (.inl ⟨rfl, rfl, rfl, rfl⟩) rfl ⟨rfl, ⟨rfl, lk16, ld16, hlk16, hld16, rfl⟩⟩
  · refine st_aload_n C (dk DX2_push_0 0 rfl) rfl ?_
    refine st_aload_n C (dk DX2_push_0 1 rfl) rfl ?_
    refine st_get C fl_RX2_18 (dk DX2_push_0 2 rfl) 0 rfl rfl ?_
    refine st_cV C (k_X2_slotAt l G (f := fun k => some (u k)) hx (by decide : 5 < 6) rfl) mf_X2_slotAt mi_X2_slotAt ml_RX2_22 (dk DX2_push_0 3 rfl) [0, 1] rfl rfl rfl rfl (Nat.le_of_ble_eq_true rfl) rfl rfl ⟨Nat.le_of_ble_eq_true rfl, Nat.le_of_ble_eq_true rfl⟩ ⟨Nat.zero_le _, Nat.zero_le _⟩ (fun r9 w9 hq9 => ?_)
    obtain ⟨rfl, rfl⟩ := hq9
    refine st_astore_n C (dk DX2_push_0 4 rfl) (by decide) rfl ?_
    refine st_aload_n C (dk DX2_push_0 5 rfl) rfl ?_
    refine st_ifnonnull C (tgt := 14) (dk DX2_push_0 6 rfl) (by decide) ?_
    refine st_aload_n C (dk DX2_push_0 8 rfl) rfl ?_
    refine st_aload_n C (dk DX2_push_0 9 rfl) rfl ?_
    refine st_cV C (k_X1_copyFrom l G) mf_X1_copyFrom mi_X1_copyFrom ml_RX2_26 (dk DX2_push_0 10 rfl) [17, 18, 19, 20, 21, 22] rfl rfl rfl rfl (Nat.le_of_ble_eq_true rfl) rfl rfl ⟨Nat.le_of_ble_eq_true rfl, Nat.le_of_ble_eq_true rfl⟩ ⟨Nat.zero_le _, Nat.zero_le _⟩ (fun r9 w9 hq9 => ?_)
    obtain ⟨rfl, lk16, ld16, hlk16, hld16, rfl⟩ := hq9
    refine st_aload_n C (dk DX2_push_0 11 rfl) rfl ?_
    refine st_aload_n C (dk DX2_push_0 12 rfl) rfl ?_
    refine st_get C fl_RX2_18 (dk DX2_push_0 13 rfl) 0 rfl rfl ?_
    refine st_iconst C (v := 1) (dk DX2_push_0 14 rfl) (by decide) ?_
    refine st_iadd C (dk DX2_push_0 15 rfl) ?_
    refine st_bipush C (v := 6) (dk DX2_push_0 16 rfl) (by decide) ?_
    refine st_irem C (dk DX2_push_0 17 rfl) (by decide) ?_
    refine st_put C fl_RX2_18 fc_1 fw_1_1 (dk DX2_push_0 18 rfl) 0 rfl rfl rfl (Nat.le_of_ble_eq_true rfl) ?_
    refine st_aload_n C (dk DX2_push_0 19 rfl) rfl ?_
    refine st_aload_n C (dk DX2_push_0 20 rfl) rfl ?_
    refine st_get C fl_RX2_30 (dk DX2_push_0 21 rfl) 0 rfl rfl ?_
    refine st_iconst C (v := 1) (dk DX2_push_0 22 rfl) (by decide) ?_
    refine st_iadd C (dk DX2_push_0 23 rfl) ?_
    refine st_bipush C (v := 6) (dk DX2_push_0 24 rfl) (by decide) ?_
    refine st_min C (dk DX2_push_0 25 rfl) mk_RX2_33 (Nat.le_of_ble_eq_true rfl) ⟨Nat.le_of_ble_eq_true rfl, Nat.le_of_ble_eq_true rfl⟩ ⟨Nat.zero_le _, Nat.zero_le _⟩ ?_
    refine st_put C fl_RX2_30 fc_1 fw_1_2 (dk DX2_push_0 26 rfl) 0 rfl rfl rfl (Nat.le_of_ble_eq_true rfl) ?_
    exact Rr 0 0 _ _ _ _ _ _ (Nat.zero_le _) (Nat.zero_le _) (dk DX2_push_0 27 rfl) (.inl ⟨rfl, rfl, rfl, rfl⟩) rfl ⟨rfl, ⟨rfl, lk16, ld16, hlk16, hld16, rfl⟩⟩
set_option maxHeartbeats 4000000 in
set_option maxRecDepth 100000 in
theorem k_X2_popInto (l : Launch) (G : wG) {v v1 : Nat} {nx sz : Int32} {u u1 u2 : Nat → Nat} {rs : Nat → Nat → Int32} {rl rd : Nat → Nat → Int32} {p q1 q2 : Nat} {ns lk ld : Nat → Int32} {j : Nat} (hx : nx + 6 - 1 - (nx + 6 - 1) / 6 * 6 = nI j) (hj : j < 6) (hs0 : ¬ sz = 0) : Con0 l G yX2_popInto cX2_popInto 4 none 1 [.ref v, .ref p] [(v, ob 1 (vF v1 nx sz)), (v1, aQ G 6 (fun k => some (u k))), (u 0, ob 0 (cR (u1 0) (u2 0) (rs 0))), (u1 0, aI G 15 (rl 0)), (u2 0, aI G 16 (rd 0)), (u 1, ob 0 (cR (u1 1) (u2 1) (rs 1))), (u1 1, aI G 15 (rl 1)), (u2 1, aI G 16 (rd 1)), (u 2, ob 0 (cR (u1 2) (u2 2) (rs 2))), (u1 2, aI G 15 (rl 2)), (u2 2, aI G 16 (rd 2)), (u 3, ob 0 (cR (u1 3) (u2 3) (rs 3))), (u1 3, aI G 15 (rl 3)), (u2 3, aI G 16 (rd 3)), (u 4, ob 0 (cR (u1 4) (u2 4) (rs 4))), (u1 4, aI G 15 (rl 4)), (u2 4, aI G 16 (rd 4)), (u 5, ob 0 (cR (u1 5) (u2 5) (rs 5))), (u1 5, aI G 15 (rl 5)), (u2 5, aI G 16 (rd 5)), (p, ob 0 (cR q1 q2 ns)), (q1, aI G 15 lk), (q2, aI G 16 ld)] (fun r w => r = none ∧ ∃ lk3 ld3 : Nat → Int32, (∀ i, i < 15 → lk3 i = rl j i) ∧ (∀ i, i < 16 → ld3 i = rd j i) ∧ w = [(v, ob 1 (vF v1 (nx + 6 - 1 - (nx + 6 - 1) / 6 * 6) (sz - 1))), (v1, aQ G 6 (fun k => some (u k))), (u 0, ob 0 (cR (u1 0) (u2 0) (rs 0))), (u1 0, aI G 15 (rl 0)), (u2 0, aI G 16 (rd 0)), (u 1, ob 0 (cR (u1 1) (u2 1) (rs 1))), (u1 1, aI G 15 (rl 1)), (u2 1, aI G 16 (rd 1)), (u 2, ob 0 (cR (u1 2) (u2 2) (rs 2))), (u1 2, aI G 15 (rl 2)), (u2 2, aI G 16 (rd 2)), (u 3, ob 0 (cR (u1 3) (u2 3) (rs 3))), (u1 3, aI G 15 (rl 3)), (u2 3, aI G 16 (rd 3)), (u 4, ob 0 (cR (u1 4) (u2 4) (rs 4))), (u1 4, aI G 15 (rl 4)), (u2 4, aI G 16 (rd 4)), (u 5, ob 0 (cR (u1 5) (u2 5) (rs 5))), (u1 5, aI G 15 (rl 5)), (u2 5, aI G 16 (rd 5)), (p, ob 0 (cR q1 q2 (rs j))), (q1, aI G 15 lk3), (q2, aI G 16 ld3)]) := by
  refine Con.mk (by decide +kernel) (Nat.le_of_ble_eq_true rfl) (fun P C Rr => ?_)
  have hj6 : j = 0 ∨ j = 1 ∨ j = 2 ∨ j = 3 ∨ j = 4 ∨ j = 5 := by omega
  rcases hj6 with rfl | rfl | rfl | rfl | rfl | rfl
  · refine st_aload_n C (dk DX2_popInto_0 0 rfl) rfl ?_
    refine st_get C fl_RX2_18 (dk DX2_popInto_0 1 rfl) 0 rfl rfl ?_
    refine st_bipush C (v := 6) (dk DX2_popInto_0 2 rfl) (by decide) ?_
    refine st_iadd C (dk DX2_popInto_0 3 rfl) ?_
    refine st_iconst C (v := 1) (dk DX2_popInto_0 4 rfl) (by decide) ?_
    refine st_isub C (dk DX2_popInto_0 5 rfl) ?_
    refine st_bipush C (v := 6) (dk DX2_popInto_0 6 rfl) (by decide) ?_
    refine st_irem C (dk DX2_popInto_0 7 rfl) (by decide) ?_
    refine st_istore_n C (dk DX2_popInto_0 8 rfl) (by decide) rfl ?_
    refine st_aload_n C (dk DX2_popInto_0 9 rfl) rfl ?_
    refine st_iload_n C (dk DX2_popInto_0 10 rfl) rfl ?_
    refine st_cV C (k_X2_slotAt l G (f := fun k => some (u k)) hx (by decide : 0 < 6) rfl) mf_X2_slotAt mi_X2_slotAt ml_RX2_22 (dk DX2_popInto_0 11 rfl) [0, 1] rfl rfl rfl rfl (Nat.le_of_ble_eq_true rfl) rfl rfl ⟨Nat.le_of_ble_eq_true rfl, Nat.le_of_ble_eq_true rfl⟩ ⟨Nat.zero_le _, Nat.zero_le _⟩ (fun r9 w9 hq9 => ?_)
    obtain ⟨rfl, rfl⟩ := hq9
    refine st_astore_n C (dk DX2_popInto_0 12 rfl) (by decide) rfl ?_
    refine st_aload_n C (dk DX2_popInto_0 13 rfl) rfl ?_
    refine st_ifnull C (dk DX2_popInto_0 14 rfl) ?_
    refine st_aload_n C (dk DX2_popInto_0 15 rfl) rfl ?_
    refine st_get C fl_RX2_30 (dk DX2_popInto_0 16 rfl) 0 rfl rfl ?_
    refine st_if_ne C (tgt := 31) (dk DX2_popInto_0 17 rfl) (by decide) (fun c_27 => ?_) (fun c_27 => ?_)
    · refine st_aload_n C (dk DX2_popInto_0 19 rfl) rfl ?_
      refine st_aload_n C (dk DX2_popInto_0 20 rfl) rfl ?_
      refine st_cV C (k_X1_copyFrom l G) mf_X1_copyFrom mi_X1_copyFrom ml_RX2_26 (dk DX2_popInto_0 21 rfl) [20, 21, 22, 2, 3, 4] rfl rfl rfl rfl (Nat.le_of_ble_eq_true rfl) rfl rfl ⟨Nat.le_of_ble_eq_true rfl, Nat.le_of_ble_eq_true rfl⟩ ⟨Nat.zero_le _, Nat.zero_le _⟩ (fun r9 w9 hq9 => ?_)
      obtain ⟨rfl, lk33, ld33, hlk33, hld33, rfl⟩ := hq9
      refine st_aload_n C (dk DX2_popInto_0 22 rfl) rfl ?_
      refine st_iload_n C (dk DX2_popInto_0 23 rfl) rfl ?_
      refine st_put C fl_RX2_18 fc_1 fw_1_1 (dk DX2_popInto_0 24 rfl) 0 rfl rfl rfl (Nat.le_of_ble_eq_true rfl) ?_
      refine st_aload_n C (dk DX2_popInto_0 25 rfl) rfl ?_
      refine st_dup C (dk DX2_popInto_0 26 rfl) rfl ?_
      refine st_get C fl_RX2_30 (dk DX2_popInto_0 27 rfl) 0 rfl rfl ?_
      refine st_iconst C (v := 1) (dk DX2_popInto_0 28 rfl) (by decide) ?_
      refine st_isub C (dk DX2_popInto_0 29 rfl) ?_
      refine st_put C fl_RX2_30 fc_1 fw_1_2 (dk DX2_popInto_0 30 rfl) 0 rfl rfl rfl (Nat.le_of_ble_eq_true rfl) ?_
      exact Rr 0 0 _ _ _ _ _ _ (Nat.zero_le _) (Nat.zero_le _) (dk DX2_popInto_0 31 rfl) (.inl ⟨rfl, rfl, rfl, rfl⟩) rfl ⟨rfl, ⟨rfl, lk33, ld33, hlk33, hld33, rfl⟩⟩
    · exact absurd c_27 hs0
  · refine st_aload_n C (dk DX2_popInto_0 0 rfl) rfl ?_
    refine st_get C fl_RX2_18 (dk DX2_popInto_0 1 rfl) 0 rfl rfl ?_
    refine st_bipush C (v := 6) (dk DX2_popInto_0 2 rfl) (by decide) ?_
    refine st_iadd C (dk DX2_popInto_0 3 rfl) ?_
    refine st_iconst C (v := 1) (dk DX2_popInto_0 4 rfl) (by decide) ?_
    refine st_isub C (dk DX2_popInto_0 5 rfl) ?_
    refine st_bipush C (v := 6) (dk DX2_popInto_0 6 rfl) (by decide) ?_
    refine st_irem C (dk DX2_popInto_0 7 rfl) (by decide) ?_
    refine st_istore_n C (dk DX2_popInto_0 8 rfl) (by decide) rfl ?_
    refine st_aload_n C (dk DX2_popInto_0 9 rfl) rfl ?_
    refine st_iload_n C (dk DX2_popInto_0 10 rfl) rfl ?_
    refine st_cV C (k_X2_slotAt l G (f := fun k => some (u k)) hx (by decide : 1 < 6) rfl) mf_X2_slotAt mi_X2_slotAt ml_RX2_22 (dk DX2_popInto_0 11 rfl) [0, 1] rfl rfl rfl rfl (Nat.le_of_ble_eq_true rfl) rfl rfl ⟨Nat.le_of_ble_eq_true rfl, Nat.le_of_ble_eq_true rfl⟩ ⟨Nat.zero_le _, Nat.zero_le _⟩ (fun r9 w9 hq9 => ?_)
    obtain ⟨rfl, rfl⟩ := hq9
    refine st_astore_n C (dk DX2_popInto_0 12 rfl) (by decide) rfl ?_
    refine st_aload_n C (dk DX2_popInto_0 13 rfl) rfl ?_
    refine st_ifnull C (dk DX2_popInto_0 14 rfl) ?_
    refine st_aload_n C (dk DX2_popInto_0 15 rfl) rfl ?_
    refine st_get C fl_RX2_30 (dk DX2_popInto_0 16 rfl) 0 rfl rfl ?_
    refine st_if_ne C (tgt := 31) (dk DX2_popInto_0 17 rfl) (by decide) (fun c_27 => ?_) (fun c_27 => ?_)
    · refine st_aload_n C (dk DX2_popInto_0 19 rfl) rfl ?_
      refine st_aload_n C (dk DX2_popInto_0 20 rfl) rfl ?_
      refine st_cV C (k_X1_copyFrom l G) mf_X1_copyFrom mi_X1_copyFrom ml_RX2_26 (dk DX2_popInto_0 21 rfl) [20, 21, 22, 5, 6, 7] rfl rfl rfl rfl (Nat.le_of_ble_eq_true rfl) rfl rfl ⟨Nat.le_of_ble_eq_true rfl, Nat.le_of_ble_eq_true rfl⟩ ⟨Nat.zero_le _, Nat.zero_le _⟩ (fun r9 w9 hq9 => ?_)
      obtain ⟨rfl, lk33, ld33, hlk33, hld33, rfl⟩ := hq9
      refine st_aload_n C (dk DX2_popInto_0 22 rfl) rfl ?_
      refine st_iload_n C (dk DX2_popInto_0 23 rfl) rfl ?_
      refine st_put C fl_RX2_18 fc_1 fw_1_1 (dk DX2_popInto_0 24 rfl) 0 rfl rfl rfl (Nat.le_of_ble_eq_true rfl) ?_
      refine st_aload_n C (dk DX2_popInto_0 25 rfl) rfl ?_
      refine st_dup C (dk DX2_popInto_0 26 rfl) rfl ?_
      refine st_get C fl_RX2_30 (dk DX2_popInto_0 27 rfl) 0 rfl rfl ?_
      refine st_iconst C (v := 1) (dk DX2_popInto_0 28 rfl) (by decide) ?_
      refine st_isub C (dk DX2_popInto_0 29 rfl) ?_
      refine st_put C fl_RX2_30 fc_1 fw_1_2 (dk DX2_popInto_0 30 rfl) 0 rfl rfl rfl (Nat.le_of_ble_eq_true rfl) ?_
      exact Rr 0 0 _ _ _ _ _ _ (Nat.zero_le _) (Nat.zero_le _) (dk DX2_popInto_0 31 rfl) (.inl ⟨rfl, rfl, rfl, rfl⟩) rfl ⟨rfl, ⟨rfl, lk33, ld33, hlk33, hld33, rfl⟩⟩
    · exact absurd c_27 hs0
  · refine st_aload_n C (dk DX2_popInto_0 0 rfl) rfl ?_
    refine st_get C fl_RX2_18 (dk DX2_popInto_0 1 rfl) 0 rfl rfl ?_
    refine st_bipush C (v := 6) (dk DX2_popInto_0 2 rfl) (by decide) ?_
    refine st_iadd C (dk DX2_popInto_0 3 rfl) ?_
    refine st_iconst C (v := 1) (dk DX2_popInto_0 4 rfl) (by decide) ?_
    refine st_isub C (dk DX2_popInto_0 5 rfl) ?_
    refine st_bipush C (v := 6) (dk DX2_popInto_0 6 rfl) (by decide) ?_
    refine st_irem C (dk DX2_popInto_0 7 rfl) (by decide) ?_
    refine st_istore_n C (dk DX2_popInto_0 8 rfl) (by decide) rfl ?_
    refine st_aload_n C (dk DX2_popInto_0 9 rfl) rfl ?_
    refine st_iload_n C (dk DX2_popInto_0 10 rfl) rfl ?_
    refine st_cV C (k_X2_slotAt l G (f := fun k => some (u k)) hx (by decide : 2 < 6) rfl) mf_X2_slotAt mi_X2_slotAt ml_RX2_22 (dk DX2_popInto_0 11 rfl) [0, 1] rfl rfl rfl rfl (Nat.le_of_ble_eq_true rfl) rfl rfl ⟨Nat.le_of_ble_eq_true rfl, Nat.le_of_ble_eq_true rfl⟩ ⟨Nat.zero_le _, Nat.zero_le _⟩ (fun r9 w9 hq9 => ?_)
    obtain ⟨rfl, rfl⟩ := hq9
    refine st_astore_n C (dk DX2_popInto_0 12 rfl) (by decide) rfl ?_
    refine st_aload_n C (dk DX2_popInto_0 13 rfl) rfl ?_
    refine st_ifnull C (dk DX2_popInto_0 14 rfl) ?_
    refine st_aload_n C (dk DX2_popInto_0 15 rfl) rfl ?_
    refine st_get C fl_RX2_30 (dk DX2_popInto_0 16 rfl) 0 rfl rfl ?_
    refine st_if_ne C (tgt := 31) (dk DX2_popInto_0 17 rfl) (by decide) (fun c_27 => ?_) (fun c_27 => ?_)
    · refine st_aload_n C (dk DX2_popInto_0 19 rfl) rfl ?_
      refine st_aload_n C (dk DX2_popInto_0 20 rfl) rfl ?_
      refine st_cV C (k_X1_copyFrom l G) mf_X1_copyFrom mi_X1_copyFrom ml_RX2_26 (dk DX2_popInto_0 21 rfl) [20, 21, 22, 8, 9, 10] rfl rfl rfl rfl (Nat.le_of_ble_eq_true rfl) rfl rfl ⟨Nat.le_of_ble_eq_true rfl, Nat.le_of_ble_eq_true rfl⟩ ⟨Nat.zero_le _, Nat.zero_le _⟩ (fun r9 w9 hq9 => ?_)
      obtain ⟨rfl, lk33, ld33, hlk33, hld33, rfl⟩ := hq9
      refine st_aload_n C (dk DX2_popInto_0 22 rfl) rfl ?_
      refine st_iload_n C (dk DX2_popInto_0 23 rfl) rfl ?_
      refine st_put C fl_RX2_18 fc_1 fw_1_1 (dk DX2_popInto_0 24 rfl) 0 rfl rfl rfl (Nat.le_of_ble_eq_true rfl) ?_
      refine st_aload_n C (dk DX2_popInto_0 25 rfl) rfl ?_
      refine st_dup C (dk DX2_popInto_0 26 rfl) rfl ?_
      refine st_get C fl_RX2_30 (dk DX2_popInto_0 27 rfl) 0 rfl rfl ?_
      refine st_iconst C (v := 1) (dk DX2_popInto_0 28 rfl) (by decide) ?_
      refine st_isub C (dk DX2_popInto_0 29 rfl) ?_
      refine st_put C fl_RX2_30 fc_1 fw_1_2 (dk DX2_popInto_0 30 rfl) 0 rfl rfl rfl (Nat.le_of_ble_eq_true rfl) ?_
      exact Rr 0 0 _ _ _ _ _ _ (Nat.zero_le _) (Nat.zero_le _) (dk DX2_popInto_0 31 rfl) (.inl ⟨rfl, rfl, rfl, rfl⟩) rfl ⟨rfl, ⟨rfl, lk33, ld33, hlk33, hld33, rfl⟩⟩
    · exact absurd c_27 hs0
  · refine st_aload_n C (dk DX2_popInto_0 0 rfl) rfl ?_
    refine st_get C fl_RX2_18 (dk DX2_popInto_0 1 rfl) 0 rfl rfl ?_
    refine st_bipush C (v := 6) (dk DX2_popInto_0 2 rfl) (by decide) ?_
    refine st_iadd C (dk DX2_popInto_0 3 rfl) ?_
    refine st_iconst C (v := 1) (dk DX2_popInto_0 4 rfl) (by decide) ?_
    refine st_isub C (dk DX2_popInto_0 5 rfl) ?_
    refine st_bipush C (v := 6) (dk DX2_popInto_0 6 rfl) (by decide) ?_
    refine st_irem C (dk DX2_popInto_0 7 rfl) (by decide) ?_
    refine st_istore_n C (dk DX2_popInto_0 8 rfl) (by decide) rfl ?_
    refine st_aload_n C (dk DX2_popInto_0 9 rfl) rfl ?_
    refine st_iload_n C (dk DX2_popInto_0 10 rfl) rfl ?_
    refine st_cV C (k_X2_slotAt l G (f := fun k => some (u k)) hx (by decide : 3 < 6) rfl) mf_X2_slotAt mi_X2_slotAt ml_RX2_22 (dk DX2_popInto_0 11 rfl) [0, 1] rfl rfl rfl rfl (Nat.le_of_ble_eq_true rfl) rfl rfl ⟨Nat.le_of_ble_eq_true rfl, Nat.le_of_ble_eq_true rfl⟩ ⟨Nat.zero_le _, Nat.zero_le _⟩ (fun r9 w9 hq9 => ?_)
    obtain ⟨rfl, rfl⟩ := hq9
    refine st_astore_n C (dk DX2_popInto_0 12 rfl) (by decide) rfl ?_
    refine st_aload_n C (dk DX2_popInto_0 13 rfl) rfl ?_
    refine st_ifnull C (dk DX2_popInto_0 14 rfl) ?_
    refine st_aload_n C (dk DX2_popInto_0 15 rfl) rfl ?_
    refine st_get C fl_RX2_30 (dk DX2_popInto_0 16 rfl) 0 rfl rfl ?_
    refine st_if_ne C (tgt := 31) (dk DX2_popInto_0 17 rfl) (by decide) (fun c_27 => ?_) (fun c_27 => ?_)
    · refine st_aload_n C (dk DX2_popInto_0 19 rfl) rfl ?_
      refine st_aload_n C (dk DX2_popInto_0 20 rfl) rfl ?_
      refine st_cV C (k_X1_copyFrom l G) mf_X1_copyFrom mi_X1_copyFrom ml_RX2_26 (dk DX2_popInto_0 21 rfl) [20, 21, 22, 11, 12, 13] rfl rfl rfl rfl (Nat.le_of_ble_eq_true rfl) rfl rfl ⟨Nat.le_of_ble_eq_true rfl, Nat.le_of_ble_eq_true rfl⟩ ⟨Nat.zero_le _, Nat.zero_le _⟩ (fun r9 w9 hq9 => ?_)
      obtain ⟨rfl, lk33, ld33, hlk33, hld33, rfl⟩ := hq9
      refine st_aload_n C (dk DX2_popInto_0 22 rfl) rfl ?_
      refine st_iload_n C (dk DX2_popInto_0 23 rfl) rfl ?_
      refine st_put C fl_RX2_18 fc_1 fw_1_1 (dk DX2_popInto_0 24 rfl) 0 rfl rfl rfl (Nat.le_of_ble_eq_true rfl) ?_
      refine st_aload_n C (dk DX2_popInto_0 25 rfl) rfl ?_
      refine st_dup C (dk DX2_popInto_0 26 rfl) rfl ?_
      refine st_get C fl_RX2_30 (dk DX2_popInto_0 27 rfl) 0 rfl rfl ?_
      refine st_iconst C (v := 1) (dk DX2_popInto_0 28 rfl) (by decide) ?_
      refine st_isub C (dk DX2_popInto_0 29 rfl) ?_
      refine st_put C fl_RX2_30 fc_1 fw_1_2 (dk DX2_popInto_0 30 rfl) 0 rfl rfl rfl (Nat.le_of_ble_eq_true rfl) ?_
      exact Rr 0 0 _ _ _ _ _ _ (Nat.zero_le _) (Nat.zero_le _) (dk DX2_popInto_0 31 rfl) (.inl ⟨rfl, rfl, rfl, rfl⟩) rfl ⟨rfl, ⟨rfl, lk33, ld33, hlk33, hld33, rfl⟩⟩
    · exact absurd c_27 hs0
  · refine st_aload_n C (dk DX2_popInto_0 0 rfl) rfl ?_
    refine st_get C fl_RX2_18 (dk DX2_popInto_0 1 rfl) 0 rfl rfl ?_
    refine st_bipush C (v := 6) (dk DX2_popInto_0 2 rfl) (by decide) ?_
    refine st_iadd C (dk DX2_popInto_0 3 rfl) ?_
    refine st_iconst C (v := 1) (dk DX2_popInto_0 4 rfl) (by decide) ?_
    refine st_isub C (dk DX2_popInto_0 5 rfl) ?_
    refine st_bipush C (v := 6) (dk DX2_popInto_0 6 rfl) (by decide) ?_
    refine st_irem C (dk DX2_popInto_0 7 rfl) (by decide) ?_
    refine st_istore_n C (dk DX2_popInto_0 8 rfl) (by decide) rfl ?_
    refine st_aload_n C (dk DX2_popInto_0 9 rfl) rfl ?_
    refine st_iload_n C (dk DX2_popInto_0 10 rfl) rfl ?_
    refine st_cV C (k_X2_slotAt l G (f := fun k => some (u k)) hx (by decide : 4 < 6) rfl) mf_X2_slotAt mi_X2_slotAt ml_RX2_22 (dk DX2_popInto_0 11 rfl) [0, 1] rfl rfl rfl rfl (Nat.le_of_ble_eq_true rfl) rfl rfl ⟨Nat.le_of_ble_eq_true rfl, Nat.le_of_ble_eq_true rfl⟩ ⟨Nat.zero_le _, Nat.zero_le _⟩ (fun r9 w9 hq9 => ?_)
    obtain ⟨rfl, rfl⟩ := hq9
    refine st_astore_n C (dk DX2_popInto_0 12 rfl) (by decide) rfl ?_
    refine st_aload_n C (dk DX2_popInto_0 13 rfl) rfl ?_
    refine st_ifnull C (dk DX2_popInto_0 14 rfl) ?_
    refine st_aload_n C (dk DX2_popInto_0 15 rfl) rfl ?_
    refine st_get C fl_RX2_30 (dk DX2_popInto_0 16 rfl) 0 rfl rfl ?_
    refine st_if_ne C (tgt := 31) (dk DX2_popInto_0 17 rfl) (by decide) (fun c_27 => ?_) (fun c_27 => ?_)
    · refine st_aload_n C (dk DX2_popInto_0 19 rfl) rfl ?_
      refine st_aload_n C (dk DX2_popInto_0 20 rfl) rfl ?_
      refine st_cV C (k_X1_copyFrom l G) mf_X1_copyFrom mi_X1_copyFrom ml_RX2_26 (dk DX2_popInto_0 21 rfl) [20, 21, 22, 14, 15, 16] rfl rfl rfl rfl (Nat.le_of_ble_eq_true rfl) rfl rfl ⟨Nat.le_of_ble_eq_true rfl, Nat.le_of_ble_eq_true rfl⟩ ⟨Nat.zero_le _, Nat.zero_le _⟩ (fun r9 w9 hq9 => ?_)
      obtain ⟨rfl, lk33, ld33, hlk33, hld33, rfl⟩ := hq9
      refine st_aload_n C (dk DX2_popInto_0 22 rfl) rfl ?_
      refine st_iload_n C (dk DX2_popInto_0 23 rfl) rfl ?_
      refine st_put C fl_RX2_18 fc_1 fw_1_1 (dk DX2_popInto_0 24 rfl) 0 rfl rfl rfl (Nat.le_of_ble_eq_true rfl) ?_
      refine st_aload_n C (dk DX2_popInto_0 25 rfl) rfl ?_
      refine st_dup C (dk DX2_popInto_0 26 rfl) rfl ?_
      refine st_get C fl_RX2_30 (dk DX2_popInto_0 27 rfl) 0 rfl rfl ?_
      refine st_iconst C (v := 1) (dk DX2_popInto_0 28 rfl) (by decide) ?_
      refine st_isub C (dk DX2_popInto_0 29 rfl) ?_
      refine st_put C fl_RX2_30 fc_1 fw_1_2 (dk DX2_popInto_0 30 rfl) 0 rfl rfl rfl (Nat.le_of_ble_eq_true rfl) ?_
      exact Rr 0 0 _ _ _ _ _ _ (Nat.zero_le _) (Nat.zero_le _) (dk DX2_popInto_0 31 rfl) (.inl ⟨rfl, rfl, rfl, rfl⟩) rfl ⟨rfl, ⟨rfl, lk33, ld33, hlk33, hld33, rfl⟩⟩
    · exact absurd c_27 hs0
  · refine st_aload_n C (dk DX2_popInto_0 0 rfl) rfl ?_
    refine st_get C fl_RX2_18 (dk DX2_popInto_0 1 rfl) 0 rfl rfl ?_
    refine st_bipush C (v := 6) (dk DX2_popInto_0 2 rfl) (by decide) ?_
    refine st_iadd C (dk DX2_popInto_0 3 rfl) ?_
    refine st_iconst C (v := 1) (dk DX2_popInto_0 4 rfl) (by decide) ?_
    refine st_isub C (dk DX2_popInto_0 5 rfl) ?_
    refine st_bipush C (v := 6) (dk DX2_popInto_0 6 rfl) (by decide) ?_
    refine st_irem C (dk DX2_popInto_0 7 rfl) (by decide) ?_
    refine st_istore_n C (dk DX2_popInto_0 8 rfl) (by decide) rfl ?_
    refine st_aload_n C (dk DX2_popInto_0 9 rfl) rfl ?_
    refine st_iload_n C (dk DX2_popInto_0 10 rfl) rfl ?_
    refine st_cV C (k_X2_slotAt l G (f := fun k => some (u k)) hx (by decide : 5 < 6) rfl) mf_X2_slotAt mi_X2_slotAt ml_RX2_22 (dk DX2_popInto_0 11 rfl) [0, 1] rfl rfl rfl rfl (Nat.le_of_ble_eq_true rfl) rfl rfl ⟨Nat.le_of_ble_eq_true rfl, Nat.le_of_ble_eq_true rfl⟩ ⟨Nat.zero_le _, Nat.zero_le _⟩ (fun r9 w9 hq9 => ?_)
    obtain ⟨rfl, rfl⟩ := hq9
    refine st_astore_n C (dk DX2_popInto_0 12 rfl) (by decide) rfl ?_
    refine st_aload_n C (dk DX2_popInto_0 13 rfl) rfl ?_
    refine st_ifnull C (dk DX2_popInto_0 14 rfl) ?_
    refine st_aload_n C (dk DX2_popInto_0 15 rfl) rfl ?_
    refine st_get C fl_RX2_30 (dk DX2_popInto_0 16 rfl) 0 rfl rfl ?_
    refine st_if_ne C (tgt := 31) (dk DX2_popInto_0 17 rfl) (by decide) (fun c_27 => ?_) (fun c_27 => ?_)
    · refine st_aload_n C (dk DX2_popInto_0 19 rfl) rfl ?_
      refine st_aload_n C (dk DX2_popInto_0 20 rfl) rfl ?_
      refine st_cV C (k_X1_copyFrom l G) mf_X1_copyFrom mi_X1_copyFrom ml_RX2_26 (dk DX2_popInto_0 21 rfl) [20, 21, 22, 17, 18, 19] rfl rfl rfl rfl (Nat.le_of_ble_eq_true rfl) rfl rfl ⟨Nat.le_of_ble_eq_true rfl, Nat.le_of_ble_eq_true rfl⟩ ⟨Nat.zero_le _, Nat.zero_le _⟩ (fun r9 w9 hq9 => ?_)
      obtain ⟨rfl, lk33, ld33, hlk33, hld33, rfl⟩ := hq9
      refine st_aload_n C (dk DX2_popInto_0 22 rfl) rfl ?_
      refine st_iload_n C (dk DX2_popInto_0 23 rfl) rfl ?_
      refine st_put C fl_RX2_18 fc_1 fw_1_1 (dk DX2_popInto_0 24 rfl) 0 rfl rfl rfl (Nat.le_of_ble_eq_true rfl) ?_
      refine st_aload_n C (dk DX2_popInto_0 25 rfl) rfl ?_
      refine st_dup C (dk DX2_popInto_0 26 rfl) rfl ?_
      refine st_get C fl_RX2_30 (dk DX2_popInto_0 27 rfl) 0 rfl rfl ?_
      refine st_iconst C (v := 1) (dk DX2_popInto_0 28 rfl) (by decide) ?_
      refine st_isub C (dk DX2_popInto_0 29 rfl) ?_
      refine st_put C fl_RX2_30 fc_1 fw_1_2 (dk DX2_popInto_0 30 rfl) 0 rfl rfl rfl (Nat.le_of_ble_eq_true rfl) ?_
      exact Rr 0 0 _ _ _ _ _ _ (Nat.zero_le _) (Nat.zero_le _) (dk DX2_popInto_0 31 rfl) (.inl ⟨rfl, rfl, rfl, rfl⟩) rfl ⟨rfl, ⟨rfl, lk33, ld33, hlk33, hld33, rfl⟩⟩
    · exact absurd c_27 hs0
