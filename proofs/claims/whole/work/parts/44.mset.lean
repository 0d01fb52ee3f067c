/-! the reference: the methods that change the state -/
set_option maxHeartbeats 4000000 in
set_option maxRecDepth 100000 in
theorem k_X6_door (l : Launch) (G : wG) {M : Nat} {A : Nat → Nat} {ke ty th ap ft bo ot il : Int32} {s : mS} {f0 f20 : Nat → Int32} {k : Nat} {p : Nat → mS} {x y : Int32} (hf : hd53 f0 s) (hke : ke = nI k) (hk : k ≤ 6) (hp : pastR f20 k p) : Con0 l G yX6_door cX6_door 3 (some .int) 2 [.ref M, .int x, .int y] [(M, ob 5 (mF A ke ty th ap ft bo ot il)), (A 2, aI G 318 f20), (A 0, aI G 53 f0)] (fun r w => (¬ isN x 14 ∧ r = some (.int 0) ∧ w = [(M, ob 5 (mF A ke ty 1 ap ft bo ot il)), (A 2, aI G 318 f20), (A 0, aI G 53 f0)]) ∨ (isN x 14 ∧ ¬ isN y 5 ∧ r = some (.int 0) ∧ w = [(M, ob 5 (mF A ke ty 2 ap ft bo ot il)), (A 2, aI G 318 f20), (A 0, aI G 53 f0)]) ∨ (∃ j i, j ≤ 14 ∧ i ≤ 5 ∧ x = nI j ∧ y = nI i ∧ r = some (.int (nI (s (22 + j)))) ∧ ∃ (f09 f29 : Nat → Int32), hd53 f09 (updS s (22 + j) i) ∧ pastR f29 (svK k) (svP s k p) ∧ w = [(M, ob 5 (mF A (nI (svK k)) ty 0 ap ft bo ot 0)), (A 2, aI G 318 f29), (A 0, aI G 53 f09)])) := by
  refine Con.mk (by decide +kernel) (Nat.le_of_ble_eq_true rfl) (fun P C Rr => ?_)
  refine st_aload_n C (dk DX6_door_0 0 rfl) rfl ?_
  refine st_iconst C (v := 0) (dk DX6_door_0 1 rfl) (by decide) ?_
  refine st_put C fl_RX6_40 fc_5 fw_5_6 (dk DX6_door_0 2 rfl) 0 rfl rfl rfl (Nat.le_of_ble_eq_true rfl) ?_
  refine st_iload_n C (dk DX6_door_0 3 rfl) rfl ?_
  refine st_iconst C (v := 0) (dk DX6_door_0 4 rfl) (by decide) ?_
  refine st_bipush C (v := 14) (dk DX6_door_0 5 rfl) (by decide) ?_
  refine st_cS C (k_X6_in l G) mf_X6_in ms_X6_in ml_RX6_44 (dk DX6_door_0 6 rfl) [] rfl rfl rfl rfl (Nat.le_of_ble_eq_true rfl) ⟨Nat.le_of_ble_eq_true rfl, Nat.le_of_ble_eq_true rfl⟩ ⟨Nat.zero_le _, Nat.zero_le _⟩ (fun r9 w9 hq9 => ?_)
  obtain ⟨rfl, rfl⟩ := hq9
  refine st_if_ne C (tgt := 21) (dk DX6_door_0 7 rfl) (by decide) (fun c_12 => ?_) (fun c_12 => ?_)
  · refine st_iload_n C (dk DX6_door_0 12 rfl) rfl ?_
    refine st_iconst C (v := 0) (dk DX6_door_0 13 rfl) (by decide) ?_
    refine st_iconst C (v := 5) (dk DX6_door_0 14 rfl) (by decide) ?_
    refine st_cS C (k_X6_in l G) mf_X6_in ms_X6_in ml_RX6_44 (dk DX6_door_0 15 rfl) [] rfl rfl rfl rfl (Nat.le_of_ble_eq_true rfl) ⟨Nat.le_of_ble_eq_true rfl, Nat.le_of_ble_eq_true rfl⟩ ⟨Nat.zero_le _, Nat.zero_le _⟩ (fun r9 w9 hq9 => ?_)
    obtain ⟨rfl, rfl⟩ := hq9
    refine st_if_ne C (tgt := 36) (dk DX6_door_0 16 rfl) (by decide) (fun c_27 => ?_) (fun c_27 => ?_)
    · obtain ⟨j, hj, rfl⟩ := rInR_f (n := 14) (by decide) rfl c_12
      obtain ⟨i, hi, rfl⟩ := rInR_f (n := 5) (by decide) rfl c_27
      have hfu : hd53 (upd f0 (22 + j) (nI i)) (updS s (22 + j) i) := by
        have := hf.upd (k := 22 + j) (x := nI (22 + j)) (v := nI i) rfl (by omega) rfl
        rwa [nI_clamp (by omega)] at this
      refine st_aload_n C (dk DX6_door_0 21 rfl) rfl ?_
      refine st_cV C (k_X6_saves l G hf hke hk hp) mf_X6_saves mi_X6_saves ml_RX6_105 (dk DX6_door_0 22 rfl) [0, 1, 2] rfl rfl rfl rfl (Nat.le_of_ble_eq_true rfl) rfl rfl ⟨Nat.le_of_ble_eq_true rfl, Nat.le_of_ble_eq_true rfl⟩ ⟨Nat.zero_le _, Nat.zero_le _⟩ (fun r9 w9 hq9 => ?_)
      obtain ⟨rfl, f237, hp37, rfl⟩ := hq9
      refine st_aload_n C (dk DX6_door_0 23 rfl) rfl ?_
      refine st_bipush C (v := 22) (dk DX6_door_0 24 rfl) (by decide) ?_
      refine st_iload_n C (dk DX6_door_0 25 rfl) rfl ?_
      refine st_iadd C (dk DX6_door_0 26 rfl) ?_
      refine st_iload_n C (dk DX6_door_0 27 rfl) rfl ?_
      refine st_cV C (k_X6_changes l G (k := 22 + j) (nI_add 22 j) (by omega)) mf_X6_changes mi_X6_changes ml_RX6_108 (dk DX6_door_0 28 rfl) [0, 2] rfl rfl rfl rfl (Nat.le_of_ble_eq_true rfl) rfl rfl ⟨Nat.le_of_ble_eq_true rfl, Nat.le_of_ble_eq_true rfl⟩ ⟨Nat.zero_le _, Nat.zero_le _⟩ (fun r9 w9 hq9 => ?_)
      obtain ⟨rfl, rfl⟩ := hq9
      exact Rr 0 0 _ _ _ _ _ _ (Nat.zero_le _) (Nat.zero_le _) (dk DX6_door_0 29 rfl) (.inr (.inl ⟨_, rfl, rfl, rfl, rfl⟩)) rfl ⟨rfl, Or.inr (Or.inr ⟨j, i, hj, hi, rfl, rfl, by rw [hf (22 + j) (by omega)], _, f237, hfu, hp37, rfl⟩)⟩
    · refine st_aload_n C (dk DX6_door_0 17 rfl) rfl ?_
      refine st_iconst C (v := 2) (dk DX6_door_0 18 rfl) (by decide) ?_
      refine st_cV C (k_X6_fails l G) mf_X6_fails mi_X6_fails ml_RX6_59 (dk DX6_door_0 19 rfl) [0] rfl rfl rfl rfl (Nat.le_of_ble_eq_true rfl) rfl rfl ⟨Nat.le_of_ble_eq_true rfl, Nat.le_of_ble_eq_true rfl⟩ ⟨Nat.zero_le _, Nat.zero_le _⟩ (fun r9 w9 hq9 => ?_)
      obtain ⟨rfl, rfl⟩ := hq9
      exact Rr 0 0 _ _ _ _ _ _ (Nat.zero_le _) (Nat.zero_le _) (dk DX6_door_0 20 rfl) (.inr (.inl ⟨_, rfl, rfl, rfl, rfl⟩)) rfl ⟨rfl, Or.inr (Or.inl ⟨rInR_f (n := 14) (by decide) rfl c_12, rInR_t (n := 5) (by decide) rfl c_27, rfl, rfl⟩)⟩
  · refine st_aload_n C (dk DX6_door_0 8 rfl) rfl ?_
    refine st_iconst C (v := 1) (dk DX6_door_0 9 rfl) (by decide) ?_
    refine st_cV C (k_X6_fails l G) mf_X6_fails mi_X6_fails ml_RX6_59 (dk DX6_door_0 10 rfl) [0] rfl rfl rfl rfl (Nat.le_of_ble_eq_true rfl) rfl rfl ⟨Nat.le_of_ble_eq_true rfl, Nat.le_of_ble_eq_true rfl⟩ ⟨Nat.zero_le _, Nat.zero_le _⟩ (fun r9 w9 hq9 => ?_)
    obtain ⟨rfl, rfl⟩ := hq9
    exact Rr 0 0 _ _ _ _ _ _ (Nat.zero_le _) (Nat.zero_le _) (dk DX6_door_0 11 rfl) (.inr (.inl ⟨_, rfl, rfl, rfl, rfl⟩)) rfl ⟨rfl, Or.inl ⟨rInR_t (n := 14) (by decide) rfl c_12, rfl, rfl⟩⟩
set_option maxHeartbeats 4000000 in
set_option maxRecDepth 100000 in
theorem k_X6_ladder (l : Launch) (G : wG) {M : Nat} {A : Nat → Nat} {ke ty th ap ft bo ot il : Int32} {s : mS} {f0 f20 : Nat → Int32} {k : Nat} {p : Nat → mS} {x y : Int32} (hf : hd53 f0 s) (hke : ke = nI k) (hk : k ≤ 6) (hp : pastR f20 k p) : Con0 l G yX6_ladder cX6_ladder 3 (some .int) 2 [.ref M, .int x, .int y] [(M, ob 5 (mF A ke ty th ap ft bo ot il)), (A 2, aI G 318 f20), (A 0, aI G 53 f0)] (fun r w => (¬ isN x 15 ∧ r = some (.int 0) ∧ w = [(M, ob 5 (mF A ke ty 1 ap ft bo ot il)), (A 2, aI G 318 f20), (A 0, aI G 53 f0)]) ∨ (∃ j, j ≤ 15 ∧ x = nI j ∧ r = some (.int (nI (s (37 + j)))) ∧ ∃ (f09 f29 : Nat → Int32), hd53 f09 (updS s (37 + j) (if y = 0 then 0 else 1)) ∧ pastR f29 (svK k) (svP s k p) ∧ w = [(M, ob 5 (mF A (nI (svK k)) ty 0 ap ft bo ot 0)), (A 2, aI G 318 f29), (A 0, aI G 53 f09)])) := by
  refine Con.mk (by decide +kernel) (Nat.le_of_ble_eq_true rfl) (fun P C Rr => ?_)
  refine st_aload_n C (dk DX6_ladder_0 0 rfl) rfl ?_
  refine st_iconst C (v := 0) (dk DX6_ladder_0 1 rfl) (by decide) ?_
  refine st_put C fl_RX6_40 fc_5 fw_5_6 (dk DX6_ladder_0 2 rfl) 0 rfl rfl rfl (Nat.le_of_ble_eq_true rfl) ?_
  refine st_iload_n C (dk DX6_ladder_0 3 rfl) rfl ?_
  refine st_cS C (k_X6_isCell l G) mf_X6_isCell ms_X6_isCell ml_RX6_63 (dk DX6_ladder_0 4 rfl) [] rfl rfl rfl rfl (Nat.le_of_ble_eq_true rfl) ⟨Nat.le_of_ble_eq_true rfl, Nat.le_of_ble_eq_true rfl⟩ ⟨Nat.zero_le _, Nat.zero_le _⟩ (fun r9 w9 hq9 => ?_)
  obtain ⟨rfl, rfl⟩ := hq9
  refine st_if_ne C (tgt := 18) (dk DX6_ladder_0 5 rfl) (by decide) (fun c_9 => ?_) (fun c_9 => ?_)
  · obtain ⟨j, hj, rfl⟩ := rInR_f (n := 15) (by decide) rfl c_9
    refine st_aload_n C (dk DX6_ladder_0 10 rfl) rfl ?_
    refine st_cV C (k_X6_saves l G hf hke hk hp) mf_X6_saves mi_X6_saves ml_RX6_105 (dk DX6_ladder_0 11 rfl) [0, 1, 2] rfl rfl rfl rfl (Nat.le_of_ble_eq_true rfl) rfl rfl ⟨Nat.le_of_ble_eq_true rfl, Nat.le_of_ble_eq_true rfl⟩ ⟨Nat.zero_le _, Nat.zero_le _⟩ (fun r9 w9 hq9 => ?_)
    obtain ⟨rfl, f219, hp19, rfl⟩ := hq9
    refine st_aload_n C (dk DX6_ladder_0 12 rfl) rfl ?_
    refine st_bipush C (v := 37) (dk DX6_ladder_0 13 rfl) (by decide) ?_
    refine st_iload_n C (dk DX6_ladder_0 14 rfl) rfl ?_
    refine st_iadd C (dk DX6_ladder_0 15 rfl) ?_
    refine st_iload_n C (dk DX6_ladder_0 16 rfl) rfl ?_
    refine st_if_eq C (tgt := 35) (dk DX6_ladder_0 17 rfl) (by decide) (fun c_28 => ?_) (fun c_28 => ?_)
    · refine st_iconst C (v := 0) (dk DX6_ladder_0 20 rfl) (by decide) ?_
      refine st_cV C (k_X6_changes l G (k := 37 + j) (nI_add 37 j) (by omega)) mf_X6_changes mi_X6_changes ml_RX6_108 (dk DX6_ladder_0 21 rfl) [0, 2] rfl rfl rfl rfl (Nat.le_of_ble_eq_true rfl) rfl rfl ⟨Nat.le_of_ble_eq_true rfl, Nat.le_of_ble_eq_true rfl⟩ ⟨Nat.zero_le _, Nat.zero_le _⟩ (fun r9 w9 hq9 => ?_)
      obtain ⟨rfl, rfl⟩ := hq9
      exact Rr 0 0 _ _ _ _ _ _ (Nat.zero_le _) (Nat.zero_le _) (dk DX6_ladder_0 22 rfl) (.inr (.inl ⟨_, rfl, rfl, rfl, rfl⟩)) rfl ⟨rfl, Or.inr ⟨j, hj, rfl, by rw [hf (37 + j) (by omega)], _, f219, hd53_ups hf (by omega) (by rw [if_pos c_28]; rfl), hp19, rfl⟩⟩
    · refine st_iconst C (v := 1) (dk DX6_ladder_0 18 rfl) (by decide) ?_
      refine st_goto C (tgt := 36) (dk DX6_ladder_0 19 rfl) (by decide) ?_
      refine st_cV C (k_X6_changes l G (k := 37 + j) (nI_add 37 j) (by omega)) mf_X6_changes mi_X6_changes ml_RX6_108 (dk DX6_ladder_0 21 rfl) [0, 2] rfl rfl rfl rfl (Nat.le_of_ble_eq_true rfl) rfl rfl ⟨Nat.le_of_ble_eq_true rfl, Nat.le_of_ble_eq_true rfl⟩ ⟨Nat.zero_le _, Nat.zero_le _⟩ (fun r9 w9 hq9 => ?_)
      obtain ⟨rfl, rfl⟩ := hq9
      exact Rr 0 0 _ _ _ _ _ _ (Nat.zero_le _) (Nat.zero_le _) (dk DX6_ladder_0 22 rfl) (.inr (.inl ⟨_, rfl, rfl, rfl, rfl⟩)) rfl ⟨rfl, Or.inr ⟨j, hj, rfl, by rw [hf (37 + j) (by omega)], _, f219, hd53_ups hf (by omega) (by rw [if_neg c_28]; rfl), hp19, rfl⟩⟩
  · refine st_aload_n C (dk DX6_ladder_0 6 rfl) rfl ?_
    refine st_iconst C (v := 1) (dk DX6_ladder_0 7 rfl) (by decide) ?_
    refine st_cV C (k_X6_fails l G) mf_X6_fails mi_X6_fails ml_RX6_59 (dk DX6_ladder_0 8 rfl) [0] rfl rfl rfl rfl (Nat.le_of_ble_eq_true rfl) rfl rfl ⟨Nat.le_of_ble_eq_true rfl, Nat.le_of_ble_eq_true rfl⟩ ⟨Nat.zero_le _, Nat.zero_le _⟩ (fun r9 w9 hq9 => ?_)
    obtain ⟨rfl, rfl⟩ := hq9
    exact Rr 0 0 _ _ _ _ _ _ (Nat.zero_le _) (Nat.zero_le _) (dk DX6_ladder_0 9 rfl) (.inr (.inl ⟨_, rfl, rfl, rfl, rfl⟩)) rfl ⟨rfl, Or.inl ⟨rInR_t (n := 15) (by decide) rfl c_9, rfl, rfl⟩⟩
set_option maxHeartbeats 4000000 in
set_option maxRecDepth 100000 in
theorem k_X6_fold (l : Launch) (G : wG) {M : Nat} {A : Nat → Nat} {ke ty th ap ft bo ot il : Int32} {s : mS} {f0 f20 : Nat → Int32} {k : Nat} {p : Nat → mS} {x : Int32} (hf : hd53 f0 s) (hke : ke = nI k) (hk : k ≤ 6) (hp : pastR f20 k p) : Con0 l G yX6_fold cX6_fold 2 (some .int) 2 [.ref M, .int x] [(M, ob 5 (mF A ke ty th ap ft bo ot il)), (A 2, aI G 318 f20), (A 0, aI G 53 f0)] (fun r w => (¬ isR x 2 8 ∧ r = some (.int 0) ∧ w = [(M, ob 5 (mF A ke ty 1 ap ft bo ot il)), (A 2, aI G 318 f20), (A 0, aI G 53 f0)]) ∨ (∃ j, 2 ≤ j ∧ j ≤ 8 ∧ x = nI j ∧ r = some (.int (nI (s 0))) ∧ ∃ (f09 f29 : Nat → Int32), hd53 f09 (updS s 0 j) ∧ pastR f29 (svK k) (svP s k p) ∧ w = [(M, ob 5 (mF A (nI (svK k)) ty 0 ap ft bo ot 0)), (A 2, aI G 318 f29), (A 0, aI G 53 f09)])) := by
  refine Con.mk (by decide +kernel) (Nat.le_of_ble_eq_true rfl) (fun P C Rr => ?_)
  refine st_aload_n C (dk DX6_fold_0 0 rfl) rfl ?_
  refine st_iconst C (v := 0) (dk DX6_fold_0 1 rfl) (by decide) ?_
  refine st_put C fl_RX6_40 fc_5 fw_5_6 (dk DX6_fold_0 2 rfl) 0 rfl rfl rfl (Nat.le_of_ble_eq_true rfl) ?_
  refine st_iload_n C (dk DX6_fold_0 3 rfl) rfl ?_
  refine st_iconst C (v := 2) (dk DX6_fold_0 4 rfl) (by decide) ?_
  refine st_bipush C (v := 8) (dk DX6_fold_0 5 rfl) (by decide) ?_
  refine st_cS C (k_X6_in l G) mf_X6_in ms_X6_in ml_RX6_44 (dk DX6_fold_0 6 rfl) [] rfl rfl rfl rfl (Nat.le_of_ble_eq_true rfl) ⟨Nat.le_of_ble_eq_true rfl, Nat.le_of_ble_eq_true rfl⟩ ⟨Nat.zero_le _, Nat.zero_le _⟩ (fun r9 w9 hq9 => ?_)
  obtain ⟨rfl, rfl⟩ := hq9
  refine st_if_ne C (tgt := 21) (dk DX6_fold_0 7 rfl) (by decide) (fun c_12 => ?_) (fun c_12 => ?_)
  · obtain ⟨j, hj, hj2, rfl⟩ := rInRg_f (a := 2) (n := 8) (by decide) (by decide) rfl rfl c_12
    refine st_aload_n C (dk DX6_fold_0 12 rfl) rfl ?_
    refine st_cV C (k_X6_saves l G hf hke hk hp) mf_X6_saves mi_X6_saves ml_RX6_105 (dk DX6_fold_0 13 rfl) [0, 1, 2] rfl rfl rfl rfl (Nat.le_of_ble_eq_true rfl) rfl rfl ⟨Nat.le_of_ble_eq_true rfl, Nat.le_of_ble_eq_true rfl⟩ ⟨Nat.zero_le _, Nat.zero_le _⟩ (fun r9 w9 hq9 => ?_)
    obtain ⟨rfl, f222, hp22, rfl⟩ := hq9
    refine st_aload_n C (dk DX6_fold_0 14 rfl) rfl ?_
    refine st_iconst C (v := 0) (dk DX6_fold_0 15 rfl) (by decide) ?_
    refine st_iload_n C (dk DX6_fold_0 16 rfl) rfl ?_
    refine st_cV C (k_X6_changes l G (k := 0) rfl (by omega)) mf_X6_changes mi_X6_changes ml_RX6_108 (dk DX6_fold_0 17 rfl) [0, 2] rfl rfl rfl rfl (Nat.le_of_ble_eq_true rfl) rfl rfl ⟨Nat.le_of_ble_eq_true rfl, Nat.le_of_ble_eq_true rfl⟩ ⟨Nat.zero_le _, Nat.zero_le _⟩ (fun r9 w9 hq9 => ?_)
    obtain ⟨rfl, rfl⟩ := hq9
    exact Rr 0 0 _ _ _ _ _ _ (Nat.zero_le _) (Nat.zero_le _) (dk DX6_fold_0 18 rfl) (.inr (.inl ⟨_, rfl, rfl, rfl, rfl⟩)) rfl ⟨rfl, Or.inr ⟨j, hj, hj2, rfl, by rw [hf 0 (by omega)], _, f222, hd53_ups hf (by omega) rfl, hp22, rfl⟩⟩
  · refine st_aload_n C (dk DX6_fold_0 8 rfl) rfl ?_
    refine st_iconst C (v := 1) (dk DX6_fold_0 9 rfl) (by decide) ?_
    refine st_cV C (k_X6_fails l G) mf_X6_fails mi_X6_fails ml_RX6_59 (dk DX6_fold_0 10 rfl) [0] rfl rfl rfl rfl (Nat.le_of_ble_eq_true rfl) rfl rfl ⟨Nat.le_of_ble_eq_true rfl, Nat.le_of_ble_eq_true rfl⟩ ⟨Nat.zero_le _, Nat.zero_le _⟩ (fun r9 w9 hq9 => ?_)
    obtain ⟨rfl, rfl⟩ := hq9
    exact Rr 0 0 _ _ _ _ _ _ (Nat.zero_le _) (Nat.zero_le _) (dk DX6_fold_0 11 rfl) (.inr (.inl ⟨_, rfl, rfl, rfl, rfl⟩)) rfl ⟨rfl, Or.inl ⟨rInRg_t (a := 2) (n := 8) (by decide) (by decide) rfl rfl c_12, rfl, rfl⟩⟩
set_option maxHeartbeats 4000000 in
set_option maxRecDepth 100000 in
theorem k_X6_stand (l : Launch) (G : wG) {M : Nat} {A : Nat → Nat} {ke ty th ap ft bo ot il : Int32} {s : mS} {f0 f20 : Nat → Int32} {k : Nat} {p : Nat → mS} {x : Int32} (hf : hd53 f0 s) (hke : ke = nI k) (hk : k ≤ 6) (hp : pastR f20 k p) : Con0 l G yX6_stand cX6_stand 2 (some .int) 2 [.ref M, .int x] [(M, ob 5 (mF A ke ty th ap ft bo ot il)), (A 2, aI G 318 f20), (A 0, aI G 53 f0)] (fun r w => (¬ isN x 15 ∧ r = some (.int 0) ∧ w = [(M, ob 5 (mF A ke ty 1 ap ft bo ot il)), (A 2, aI G 318 f20), (A 0, aI G 53 f0)]) ∨ (∃ j, j ≤ 15 ∧ x = nI j ∧ r = some (.int (nI (s 1))) ∧ ∃ (f09 f29 : Nat → Int32), hd53 f09 (updS s 1 j) ∧ pastR f29 (svK k) (svP s k p) ∧ w = [(M, ob 5 (mF A (nI (svK k)) ty 0 ap ft bo ot 0)), (A 2, aI G 318 f29), (A 0, aI G 53 f09)])) := by
  refine Con.mk (by decide +kernel) (Nat.le_of_ble_eq_true rfl) (fun P C Rr => ?_)
  refine st_aload_n C (dk DX6_stand_0 0 rfl) rfl ?_
  refine st_iconst C (v := 0) (dk DX6_stand_0 1 rfl) (by decide) ?_
  refine st_put C fl_RX6_40 fc_5 fw_5_6 (dk DX6_stand_0 2 rfl) 0 rfl rfl rfl (Nat.le_of_ble_eq_true rfl) ?_
  refine st_iload_n C (dk DX6_stand_0 3 rfl) rfl ?_
  refine st_cS C (k_X6_isCell l G) mf_X6_isCell ms_X6_isCell ml_RX6_63 (dk DX6_stand_0 4 rfl) [] rfl rfl rfl rfl (Nat.le_of_ble_eq_true rfl) ⟨Nat.le_of_ble_eq_true rfl, Nat.le_of_ble_eq_true rfl⟩ ⟨Nat.zero_le _, Nat.zero_le _⟩ (fun r9 w9 hq9 => ?_)
  obtain ⟨rfl, rfl⟩ := hq9
  refine st_if_ne C (tgt := 18) (dk DX6_stand_0 5 rfl) (by decide) (fun c_9 => ?_) (fun c_9 => ?_)
  · obtain ⟨j, hj, rfl⟩ := rInR_f (n := 15) (by decide) rfl c_9
    refine st_aload_n C (dk DX6_stand_0 10 rfl) rfl ?_
    refine st_cV C (k_X6_saves l G hf hke hk hp) mf_X6_saves mi_X6_saves ml_RX6_105 (dk DX6_stand_0 11 rfl) [0, 1, 2] rfl rfl rfl rfl (Nat.le_of_ble_eq_true rfl) rfl rfl ⟨Nat.le_of_ble_eq_true rfl, Nat.le_of_ble_eq_true rfl⟩ ⟨Nat.zero_le _, Nat.zero_le _⟩ (fun r9 w9 hq9 => ?_)
    obtain ⟨rfl, f219, hp19, rfl⟩ := hq9
    refine st_aload_n C (dk DX6_stand_0 12 rfl) rfl ?_
    refine st_iconst C (v := 1) (dk DX6_stand_0 13 rfl) (by decide) ?_
    refine st_iload_n C (dk DX6_stand_0 14 rfl) rfl ?_
    refine st_cV C (k_X6_changes l G (k := 1) rfl (by omega)) mf_X6_changes mi_X6_changes ml_RX6_108 (dk DX6_stand_0 15 rfl) [0, 2] rfl rfl rfl rfl (Nat.le_of_ble_eq_true rfl) rfl rfl ⟨Nat.le_of_ble_eq_true rfl, Nat.le_of_ble_eq_true rfl⟩ ⟨Nat.zero_le _, Nat.zero_le _⟩ (fun r9 w9 hq9 => ?_)
    obtain ⟨rfl, rfl⟩ := hq9
    exact Rr 0 0 _ _ _ _ _ _ (Nat.zero_le _) (Nat.zero_le _) (dk DX6_stand_0 16 rfl) (.inr (.inl ⟨_, rfl, rfl, rfl, rfl⟩)) rfl ⟨rfl, Or.inr ⟨j, hj, rfl, by rw [hf 1 (by omega)], _, f219, hd53_ups hf (by omega) rfl, hp19, rfl⟩⟩
  · refine st_aload_n C (dk DX6_stand_0 6 rfl) rfl ?_
    refine st_iconst C (v := 1) (dk DX6_stand_0 7 rfl) (by decide) ?_
    refine st_cV C (k_X6_fails l G) mf_X6_fails mi_X6_fails ml_RX6_59 (dk DX6_stand_0 8 rfl) [0] rfl rfl rfl rfl (Nat.le_of_ble_eq_true rfl) rfl rfl ⟨Nat.le_of_ble_eq_true rfl, Nat.le_of_ble_eq_true rfl⟩ ⟨Nat.zero_le _, Nat.zero_le _⟩ (fun r9 w9 hq9 => ?_)
    obtain ⟨rfl, rfl⟩ := hq9
    exact Rr 0 0 _ _ _ _ _ _ (Nat.zero_le _) (Nat.zero_le _) (dk DX6_stand_0 9 rfl) (.inr (.inl ⟨_, rfl, rfl, rfl, rfl⟩)) rfl ⟨rfl, Or.inl ⟨rInR_t (n := 15) (by decide) rfl c_9, rfl, rfl⟩⟩
set_option maxHeartbeats 4000000 in
set_option maxRecDepth 100000 in
theorem k_X6_key (l : Launch) (G : wG) {M : Nat} {A : Nat → Nat} {ke ty th ap ft bo ot il : Int32} {s : mS} {f0 f20 : Nat → Int32} {k : Nat} {p : Nat → mS} {x y : Int32} (hf : hd53 f0 s) (hke : ke = nI k) (hk : k ≤ 6) (hp : pastR f20 k p) (hok : mOk s) : Con0 l G yX6_key cX6_key 3 (some .int) 2 [.ref M, .int x, .int y] [(M, ob 5 (mF A ke ty th ap ft bo ot il)), (A 2, aI G 318 f20), (A 0, aI G 53 f0)] (fun r w => (¬ isN x 15 ∧ r = some (.int 0) ∧ w = [(M, ob 5 (mF A ke ty 1 ap ft bo ot il)), (A 2, aI G 318 f20), (A 0, aI G 53 f0)]) ∨ (isN x 15 ∧ ¬ isN y 5 ∧ r = some (.int 0) ∧ w = [(M, ob 5 (mF A ke ty 2 ap ft bo ot il)), (A 2, aI G 318 f20), (A 0, aI G 53 f0)]) ∨ (∃ j i, j ≤ 15 ∧ i ≤ 5 ∧ x = nI j ∧ y = nI i ∧ (0 < i ∧ s (6 + j) = 0 ∧ kcN s 16 = 2) ∧ r = some (.int 0) ∧ w = [(M, ob 5 (mF A ke ty 3 ap ft bo ot il)), (A 2, aI G 318 f20), (A 0, aI G 53 f0)]) ∨ (∃ j i, j ≤ 15 ∧ i ≤ 5 ∧ x = nI j ∧ y = nI i ∧ ¬ (0 < i ∧ s (6 + j) = 0 ∧ kcN s 16 = 2) ∧ r = some (.int (nI (s (6 + j)))) ∧ ∃ (f09 f29 : Nat → Int32), hd53 f09 (updS s (6 + j) i) ∧ pastR f29 (svK k) (svP s k p) ∧ w = [(M, ob 5 (mF A (nI (svK k)) ty 0 ap ft bo ot 0)), (A 2, aI G 318 f29), (A 0, aI G 53 f09)])) := by
  refine Con.mk (by decide +kernel) (Nat.le_of_ble_eq_true rfl) (fun P C Rr => ?_)
  refine st_aload_n C (dk DX6_key_0 0 rfl) rfl ?_
  refine st_iconst C (v := 0) (dk DX6_key_0 1 rfl) (by decide) ?_
  refine st_put C fl_RX6_40 fc_5 fw_5_6 (dk DX6_key_0 2 rfl) 0 rfl rfl rfl (Nat.le_of_ble_eq_true rfl) ?_
  refine st_iload_n C (dk DX6_key_0 3 rfl) rfl ?_
  refine st_cS C (k_X6_isCell l G) mf_X6_isCell ms_X6_isCell ml_RX6_63 (dk DX6_key_0 4 rfl) [] rfl rfl rfl rfl (Nat.le_of_ble_eq_true rfl) ⟨Nat.le_of_ble_eq_true rfl, Nat.le_of_ble_eq_true rfl⟩ ⟨Nat.zero_le _, Nat.zero_le _⟩ (fun r9 w9 hq9 => ?_)
  obtain ⟨rfl, rfl⟩ := hq9
  refine st_if_ne C (tgt := 18) (dk DX6_key_0 5 rfl) (by decide) (fun c_9 => ?_) (fun c_9 => ?_)
  · refine st_iload_n C (dk DX6_key_0 10 rfl) rfl ?_
    refine st_iconst C (v := 0) (dk DX6_key_0 11 rfl) (by decide) ?_
    refine st_iconst C (v := 5) (dk DX6_key_0 12 rfl) (by decide) ?_
    refine st_cS C (k_X6_in l G) mf_X6_in ms_X6_in ml_RX6_44 (dk DX6_key_0 13 rfl) [] rfl rfl rfl rfl (Nat.le_of_ble_eq_true rfl) ⟨Nat.le_of_ble_eq_true rfl, Nat.le_of_ble_eq_true rfl⟩ ⟨Nat.zero_le _, Nat.zero_le _⟩ (fun r9 w9 hq9 => ?_)
    obtain ⟨rfl, rfl⟩ := hq9
    refine st_if_ne C (tgt := 33) (dk DX6_key_0 14 rfl) (by decide) (fun c_24 => ?_) (fun c_24 => ?_)
    · obtain ⟨j, hj, rfl⟩ := rInR_f (n := 15) (by decide) rfl c_9
      obtain ⟨i, hi, rfl⟩ := rInR_f (n := 5) (by decide) rfl c_24
      have hv : f0 ((6 : Int32) + nI j).toNatClampNeg = nI (s (6 + j)) := hf.at (nadd 6 j rfl) (by omega)
      have h5 := hok.2.2.2.1 j (by omega)
      unfold kAt at h5
      rw [if_neg (by omega)] at h5
      have hkc := kcN_le s 16
      refine st_iload_n C (dk DX6_key_0 19 rfl) rfl ?_
      refine st_if_le C (tgt := 63) (dk DX6_key_0 20 rfl) (by decide) (fun c_34 => ?_) (fun c_34 => ?_)
      · refine st_aload_n C (dk DX6_key_0 36 rfl) rfl ?_
        refine st_cV C (k_X6_saves l G hf hke hk hp) mf_X6_saves mi_X6_saves ml_RX6_105 (dk DX6_key_0 37 rfl) [0, 1, 2] rfl rfl rfl rfl (Nat.le_of_ble_eq_true rfl) rfl rfl ⟨Nat.le_of_ble_eq_true rfl, Nat.le_of_ble_eq_true rfl⟩ ⟨Nat.zero_le _, Nat.zero_le _⟩ (fun r9 w9 hq9 => ?_)
        obtain ⟨rfl, f264, hp64, rfl⟩ := hq9
        refine st_aload_n C (dk DX6_key_0 38 rfl) rfl ?_
        refine st_bipush C (v := 6) (dk DX6_key_0 39 rfl) (by decide) ?_
        refine st_iload_n C (dk DX6_key_1 0 rfl) rfl ?_
        refine st_iadd C (dk DX6_key_1 1 rfl) ?_
        refine st_iload_n C (dk DX6_key_1 2 rfl) rfl ?_
        refine st_cV C (k_X6_changes l G (k := 6 + j) (nI_add 6 j) (by omega)) mf_X6_changes mi_X6_changes ml_RX6_108 (dk DX6_key_1 3 rfl) [0, 2] rfl rfl rfl rfl (Nat.le_of_ble_eq_true rfl) rfl rfl ⟨Nat.le_of_ble_eq_true rfl, Nat.le_of_ble_eq_true rfl⟩ ⟨Nat.zero_le _, Nat.zero_le _⟩ (fun r9 w9 hq9 => ?_)
        obtain ⟨rfl, rfl⟩ := hq9
        exact Rr 0 0 _ _ _ _ _ _ (Nat.zero_le _) (Nat.zero_le _) (dk DX6_key_1 4 rfl) (.inr (.inl ⟨_, rfl, rfl, rfl, rfl⟩)) rfl ⟨rfl, Or.inr (Or.inr (Or.inr ⟨j, i, hj, hi, rfl, rfl, fun h => absurd h.1 (by have := (le0_nI (by omega)).mp c_34; omega), by rw [hf (6 + j) (by omega)], _, f264, hd53_ups hf (by omega) rfl, hp64, rfl⟩))⟩
      · refine st_aload_n C (dk DX6_key_0 21 rfl) rfl ?_
        refine st_get C fl_RX6_7 (dk DX6_key_0 22 rfl) 0 rfl rfl ?_
        refine st_bipush C (v := 6) (dk DX6_key_0 23 rfl) (by decide) ?_
        refine st_iload_n C (dk DX6_key_0 24 rfl) rfl ?_
        refine st_iadd C (dk DX6_key_0 25 rfl) ?_
        refine st_iald C (dk DX6_key_0 26 rfl) 2 rfl (vpA (k := 6) rfl (by omega) (by decide)) ?_
        refine st_if_ne C (tgt := 63) (dk DX6_key_0 27 rfl) (by decide) (fun c_46 => ?_) (fun c_46 => ?_)
        · refine st_aload_n C (dk DX6_key_0 36 rfl) rfl ?_
          refine st_cV C (k_X6_saves l G hf hke hk hp) mf_X6_saves mi_X6_saves ml_RX6_105 (dk DX6_key_0 37 rfl) [0, 1, 2] rfl rfl rfl rfl (Nat.le_of_ble_eq_true rfl) rfl rfl ⟨Nat.le_of_ble_eq_true rfl, Nat.le_of_ble_eq_true rfl⟩ ⟨Nat.zero_le _, Nat.zero_le _⟩ (fun r9 w9 hq9 => ?_)
          obtain ⟨rfl, f264, hp64, rfl⟩ := hq9
          refine st_aload_n C (dk DX6_key_0 38 rfl) rfl ?_
          refine st_bipush C (v := 6) (dk DX6_key_0 39 rfl) (by decide) ?_
          refine st_iload_n C (dk DX6_key_1 0 rfl) rfl ?_
          refine st_iadd C (dk DX6_key_1 1 rfl) ?_
          refine st_iload_n C (dk DX6_key_1 2 rfl) rfl ?_
          refine st_cV C (k_X6_changes l G (k := 6 + j) (nI_add 6 j) (by omega)) mf_X6_changes mi_X6_changes ml_RX6_108 (dk DX6_key_1 3 rfl) [0, 2] rfl rfl rfl rfl (Nat.le_of_ble_eq_true rfl) rfl rfl ⟨Nat.le_of_ble_eq_true rfl, Nat.le_of_ble_eq_true rfl⟩ ⟨Nat.zero_le _, Nat.zero_le _⟩ (fun r9 w9 hq9 => ?_)
          obtain ⟨rfl, rfl⟩ := hq9
          exact Rr 0 0 _ _ _ _ _ _ (Nat.zero_le _) (Nat.zero_le _) (dk DX6_key_1 4 rfl) (.inr (.inl ⟨_, rfl, rfl, rfl, rfl⟩)) rfl ⟨rfl, Or.inr (Or.inr (Or.inr ⟨j, i, hj, hi, rfl, rfl, fun h => c_46 ((eq_nI (a := s (6 + j)) (i := 0) (by omega) (by decide) (by rw [hv]) rfl).mpr h.2.1), by rw [hf (6 + j) (by omega)], _, f264, hd53_ups hf (by omega) rfl, hp64, rfl⟩))⟩
        · refine st_aload_n C (dk DX6_key_0 28 rfl) rfl ?_
          refine st_cV C (k_X6_keys l G hf hok) mf_X6_keys mi_X6_keys ml_RX6_112 (dk DX6_key_0 29 rfl) [0, 2] rfl rfl rfl rfl (Nat.le_of_ble_eq_true rfl) rfl rfl ⟨Nat.le_of_ble_eq_true rfl, Nat.le_of_ble_eq_true rfl⟩ ⟨Nat.zero_le _, Nat.zero_le _⟩ (fun r9 w9 hq9 => ?_)
          obtain ⟨rfl, rfl⟩ := hq9
          refine st_iconst C (v := 2) (dk DX6_key_0 30 rfl) (by decide) ?_
          refine st_icmp_ne C (tgt := 63) (dk DX6_key_0 31 rfl) (by decide) (fun c_54 => ?_) (fun c_54 => ?_)
          · refine st_aload_n C (dk DX6_key_0 36 rfl) rfl ?_
            refine st_cV C (k_X6_saves l G hf hke hk hp) mf_X6_saves mi_X6_saves ml_RX6_105 (dk DX6_key_0 37 rfl) [0, 1, 2] rfl rfl rfl rfl (Nat.le_of_ble_eq_true rfl) rfl rfl ⟨Nat.le_of_ble_eq_true rfl, Nat.le_of_ble_eq_true rfl⟩ ⟨Nat.zero_le _, Nat.zero_le _⟩ (fun r9 w9 hq9 => ?_)
            obtain ⟨rfl, f264, hp64, rfl⟩ := hq9
            refine st_aload_n C (dk DX6_key_0 38 rfl) rfl ?_
            refine st_bipush C (v := 6) (dk DX6_key_0 39 rfl) (by decide) ?_
            refine st_iload_n C (dk DX6_key_1 0 rfl) rfl ?_
            refine st_iadd C (dk DX6_key_1 1 rfl) ?_
            refine st_iload_n C (dk DX6_key_1 2 rfl) rfl ?_
            refine st_cV C (k_X6_changes l G (k := 6 + j) (nI_add 6 j) (by omega)) mf_X6_changes mi_X6_changes ml_RX6_108 (dk DX6_key_1 3 rfl) [0, 2] rfl rfl rfl rfl (Nat.le_of_ble_eq_true rfl) rfl rfl ⟨Nat.le_of_ble_eq_true rfl, Nat.le_of_ble_eq_true rfl⟩ ⟨Nat.zero_le _, Nat.zero_le _⟩ (fun r9 w9 hq9 => ?_)
            obtain ⟨rfl, rfl⟩ := hq9
            exact Rr 0 0 _ _ _ _ _ _ (Nat.zero_le _) (Nat.zero_le _) (dk DX6_key_1 4 rfl) (.inr (.inl ⟨_, rfl, rfl, rfl, rfl⟩)) rfl ⟨rfl, Or.inr (Or.inr (Or.inr ⟨j, i, hj, hi, rfl, rfl, fun h => c_54 ((eq_nI (a := kcN s 16) (i := 2) (by omega) (by decide) rfl rfl).mpr h.2.2), by rw [hf (6 + j) (by omega)], _, f264, hd53_ups hf (by omega) rfl, hp64, rfl⟩))⟩
          · refine st_aload_n C (dk DX6_key_0 32 rfl) rfl ?_
            refine st_iconst C (v := 3) (dk DX6_key_0 33 rfl) (by decide) ?_
            refine st_cV C (k_X6_fails l G) mf_X6_fails mi_X6_fails ml_RX6_59 (dk DX6_key_0 34 rfl) [0] rfl rfl rfl rfl (Nat.le_of_ble_eq_true rfl) rfl rfl ⟨Nat.le_of_ble_eq_true rfl, Nat.le_of_ble_eq_true rfl⟩ ⟨Nat.zero_le _, Nat.zero_le _⟩ (fun r9 w9 hq9 => ?_)
            obtain ⟨rfl, rfl⟩ := hq9
            exact Rr 0 0 _ _ _ _ _ _ (Nat.zero_le _) (Nat.zero_le _) (dk DX6_key_0 35 rfl) (.inr (.inl ⟨_, rfl, rfl, rfl, rfl⟩)) rfl ⟨rfl, Or.inr (Or.inr (Or.inl ⟨j, i, hj, hi, rfl, rfl, ⟨(gt0_nI (by omega)).mp c_34, (eq_nI (a := s (6 + j)) (i := 0) (by omega) (by decide) (by rw [hv]) rfl).mp c_46, (eq_nI (a := kcN s 16) (i := 2) (by omega) (by decide) rfl rfl).mp c_54⟩, rfl, rfl⟩))⟩
    · refine st_aload_n C (dk DX6_key_0 15 rfl) rfl ?_
      refine st_iconst C (v := 2) (dk DX6_key_0 16 rfl) (by decide) ?_
      refine st_cV C (k_X6_fails l G) mf_X6_fails mi_X6_fails ml_RX6_59 (dk DX6_key_0 17 rfl) [0] rfl rfl rfl rfl (Nat.le_of_ble_eq_true rfl) rfl rfl ⟨Nat.le_of_ble_eq_true rfl, Nat.le_of_ble_eq_true rfl⟩ ⟨Nat.zero_le _, Nat.zero_le _⟩ (fun r9 w9 hq9 => ?_)
      obtain ⟨rfl, rfl⟩ := hq9
      exact Rr 0 0 _ _ _ _ _ _ (Nat.zero_le _) (Nat.zero_le _) (dk DX6_key_0 18 rfl) (.inr (.inl ⟨_, rfl, rfl, rfl, rfl⟩)) rfl ⟨rfl, Or.inr (Or.inl ⟨rInR_f (n := 15) (by decide) rfl c_9, rInR_t (n := 5) (by decide) rfl c_24, rfl, rfl⟩)⟩
  · refine st_aload_n C (dk DX6_key_0 6 rfl) rfl ?_
    refine st_iconst C (v := 1) (dk DX6_key_0 7 rfl) (by decide) ?_
    refine st_cV C (k_X6_fails l G) mf_X6_fails mi_X6_fails ml_RX6_59 (dk DX6_key_0 8 rfl) [0] rfl rfl rfl rfl (Nat.le_of_ble_eq_true rfl) rfl rfl ⟨Nat.le_of_ble_eq_true rfl, Nat.le_of_ble_eq_true rfl⟩ ⟨Nat.zero_le _, Nat.zero_le _⟩ (fun r9 w9 hq9 => ?_)
    obtain ⟨rfl, rfl⟩ := hq9
    exact Rr 0 0 _ _ _ _ _ _ (Nat.zero_le _) (Nat.zero_le _) (dk DX6_key_0 9 rfl) (.inr (.inl ⟨_, rfl, rfl, rfl, rfl⟩)) rfl ⟨rfl, Or.inl ⟨rInR_t (n := 15) (by decide) rfl c_9, rfl, rfl⟩⟩
