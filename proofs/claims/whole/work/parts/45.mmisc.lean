/-! the reference: step, append, clearBuffer, walker, refusal -/
theorem refN_le (s : mS) (st : Nat) : refN s st ≤ 2 := by
  unfold refN
  split
  · split <;> omega
  · cases ldN s (s 1) st with
    | none => exact Nat.le_succ 1
    | some nx =>
      show (if _ then _ else _) ≤ 2
      split <;> omega
set_option maxHeartbeats 4000000 in
set_option maxRecDepth 100000 in
theorem k_X6_step (l : Launch) (G : wG) {M : Nat} {A : Nat → Nat} {ke ty th ap ft bo ot il : Int32} {s : mS} {f0 f20 : Nat → Int32} {k : Nat} {p : Nat → mS} {x : Int32} (hf : hd53 f0 s) (hke : ke = nI k) (hk : k ≤ 6) (hp : pastR f20 k p) (hok : mOk s) : Con0 l G yX6_step cX6_step 2 (some .int) 5 [.ref M, .int x] [(M, ob 5 (mF A ke ty th ap ft bo ot il)), (A 2, aI G 318 f20), (A 0, aI G 53 f0)] (fun r w => (¬ isN x 4 ∧ r = some (.int 0) ∧ w = [(M, ob 5 (mF A ke ty 1 ap ft bo ot il)), (A 2, aI G 318 f20), (A 0, aI G 53 f0)]) ∨ (∃ st, st ≤ 4 ∧ x = nI st ∧ 0 < refN s st ∧ r = some (.int 0) ∧ w = [(M, ob 5 (mF A ke ty 2 ap ft bo ot il)), (A 2, aI G 318 f20), (A 0, aI G 53 f0)]) ∨ (∃ st, st ≤ 4 ∧ x = nI st ∧ refN s st = 0 ∧ r = some (.int (nI (goN s st 1))) ∧ ∃ (f09 f29 : Nat → Int32), hd53 f09 (goN s st) ∧ pastR f29 (svK k) (svP s k p) ∧ w = [(M, ob 5 (mF A (nI (svK k)) ty 0 ap ft bo ot 0)), (A 2, aI G 318 f29), (A 0, aI G 53 f09)])) := by
  refine Con.mk (by decide +kernel) (Nat.le_of_ble_eq_true rfl) (fun P C Rr => ?_)
  refine st_aload_n C (dk DX6_step_0 0 rfl) rfl ?_
  refine st_iconst C (v := 0) (dk DX6_step_0 1 rfl) (by decide) ?_
  refine st_put C fl_RX6_40 fc_5 fw_5_6 (dk DX6_step_0 2 rfl) 0 rfl rfl rfl (Nat.le_of_ble_eq_true rfl) ?_
  refine st_iload_n C (dk DX6_step_0 3 rfl) rfl ?_
  refine st_iconst C (v := 0) (dk DX6_step_0 4 rfl) (by decide) ?_
  refine st_iconst C (v := 4) (dk DX6_step_0 5 rfl) (by decide) ?_
  refine st_cS C (k_X6_in l G) mf_X6_in ms_X6_in ml_RX6_44 (dk DX6_step_0 6 rfl) [] rfl rfl rfl rfl (Nat.le_of_ble_eq_true rfl) ⟨Nat.le_of_ble_eq_true rfl, Nat.le_of_ble_eq_true rfl⟩ ⟨Nat.zero_le _, Nat.zero_le _⟩ (fun r9 w9 hq9 => ?_)
  obtain ⟨rfl, rfl⟩ := hq9
  refine st_if_ne C (tgt := 20) (dk DX6_step_0 7 rfl) (by decide) (fun c_11 => ?_) (fun c_11 => ?_)
  · obtain ⟨st, hst, rfl⟩ := rInR_f (n := 4) (by decide) rfl c_11
    have hrl := refN_le s st
    refine st_aload_n C (dk DX6_step_0 12 rfl) rfl ?_
    refine st_get C fl_RX6_7 (dk DX6_step_0 13 rfl) 0 rfl rfl ?_
    refine st_iload_n C (dk DX6_step_0 14 rfl) rfl ?_
    refine st_cS C (k_X6_refused l G hf hok rfl (by omega : st < 5)) mf_X6_refused ms_X6_refused ml_RX6_116 (dk DX6_step_0 15 rfl) [2] rfl rfl rfl rfl (Nat.le_of_ble_eq_true rfl) ⟨Nat.le_of_ble_eq_true rfl, Nat.le_of_ble_eq_true rfl⟩ ⟨Nat.zero_le _, Nat.zero_le _⟩ (fun r9 w9 hq9 => ?_)
    obtain ⟨rfl, rfl⟩ := hq9
    refine st_if_le C (tgt := 37) (dk DX6_step_0 16 rfl) (by decide) (fun c_28 => ?_) (fun c_28 => ?_)
    · have hr0 : refN s st = 0 := (le0_nI (by omega)).mp c_28
      refine st_aload_n C (dk DX6_step_0 21 rfl) rfl ?_
      refine st_cV C (k_X6_saves l G hf hke hk hp) mf_X6_saves mi_X6_saves ml_RX6_105 (dk DX6_step_0 22 rfl) [0, 1, 2] rfl rfl rfl rfl (Nat.le_of_ble_eq_true rfl) rfl rfl ⟨Nat.le_of_ble_eq_true rfl, Nat.le_of_ble_eq_true rfl⟩ ⟨Nat.zero_le _, Nat.zero_le _⟩ (fun r9 w9 hq9 => ?_)
      obtain ⟨rfl, f238, hp38, rfl⟩ := hq9
      refine st_aload_n C (dk DX6_step_0 23 rfl) rfl ?_
      refine st_get C fl_RX6_7 (dk DX6_step_0 24 rfl) 0 rfl rfl ?_
      refine st_iload_n C (dk DX6_step_0 25 rfl) rfl ?_
      refine st_cS C (k_X6_goes l G hf hok rfl (by omega) hr0) mf_X6_goes ms_X6_goes ml_RX6_119 (dk DX6_step_0 26 rfl) [2] rfl rfl rfl rfl (Nat.le_of_ble_eq_true rfl) ⟨Nat.le_of_ble_eq_true rfl, Nat.le_of_ble_eq_true rfl⟩ ⟨Nat.zero_le _, Nat.zero_le _⟩ (fun r9 w9 hq9 => ?_)
      obtain ⟨rfl, f46, hf46, rfl⟩ := hq9
      refine st_aload_n C (dk DX6_step_0 27 rfl) rfl ?_
      refine st_get C fl_RX6_7 (dk DX6_step_0 28 rfl) 0 rfl rfl ?_
      refine st_iconst C (v := 1) (dk DX6_step_0 29 rfl) (by decide) ?_
      refine st_iald C (dk DX6_step_0 30 rfl) 2 rfl (vp_nI (show (1 : Int32) = nI 1 from rfl) (by decide) (by decide)) ?_
      exact Rr 0 0 _ _ _ _ _ _ (Nat.zero_le _) (Nat.zero_le _) (dk DX6_step_0 31 rfl) (.inr (.inl ⟨_, rfl, rfl, rfl, rfl⟩)) rfl ⟨rfl, Or.inr (Or.inr ⟨st, hst, rfl, hr0, by rw [show f46 (Int32.toNatClampNeg 1) = nI (goN s st 1) from hf46.at (j := 1) rfl (by decide)], _, f238, hf46, hp38, rfl⟩)⟩
    · refine st_aload_n C (dk DX6_step_0 17 rfl) rfl ?_
      refine st_iconst C (v := 2) (dk DX6_step_0 18 rfl) (by decide) ?_
      refine st_cV C (k_X6_fails l G) mf_X6_fails mi_X6_fails ml_RX6_59 (dk DX6_step_0 19 rfl) [0] rfl rfl rfl rfl (Nat.le_of_ble_eq_true rfl) rfl rfl ⟨Nat.le_of_ble_eq_true rfl, Nat.le_of_ble_eq_true rfl⟩ ⟨Nat.zero_le _, Nat.zero_le _⟩ (fun r9 w9 hq9 => ?_)
      obtain ⟨rfl, rfl⟩ := hq9
      exact Rr 0 0 _ _ _ _ _ _ (Nat.zero_le _) (Nat.zero_le _) (dk DX6_step_0 20 rfl) (.inr (.inl ⟨_, rfl, rfl, rfl, rfl⟩)) rfl ⟨rfl, Or.inr (Or.inl ⟨st, hst, rfl, (gt0_nI (by omega)).mp c_28, rfl, rfl⟩)⟩
  · refine st_aload_n C (dk DX6_step_0 8 rfl) rfl ?_
    refine st_iconst C (v := 1) (dk DX6_step_0 9 rfl) (by decide) ?_
    refine st_cV C (k_X6_fails l G) mf_X6_fails mi_X6_fails ml_RX6_59 (dk DX6_step_0 10 rfl) [0] rfl rfl rfl rfl (Nat.le_of_ble_eq_true rfl) rfl rfl ⟨Nat.le_of_ble_eq_true rfl, Nat.le_of_ble_eq_true rfl⟩ ⟨Nat.zero_le _, Nat.zero_le _⟩ (fun r9 w9 hq9 => ?_)
    obtain ⟨rfl, rfl⟩ := hq9
    exact Rr 0 0 _ _ _ _ _ _ (Nat.zero_le _) (Nat.zero_le _) (dk DX6_step_0 11 rfl) (.inr (.inl ⟨_, rfl, rfl, rfl, rfl⟩)) rfl ⟨rfl, Or.inl ⟨rInR_t (n := 4) (by decide) rfl c_11, rfl, rfl⟩⟩
set_option maxHeartbeats 4000000 in
set_option maxRecDepth 100000 in
theorem k_X6_append (l : Launch) (G : wG) {M : Nat} {A : Nat → Nat} {ke ty th ap ft bo ot il : Int32} {f3 : Nat → Int32} {n : Nat} {x : Int32} (hty : ty = nI n) (hn : n ≤ 60) : Con0 l G yX6_append cX6_append 2 (some .int) 1 [.ref M, .int x] [(M, ob 5 (mF A ke ty th ap ft bo ot il)), (A 3, aI G 60 f3)] (fun r w => (¬ isR x 33 126 ∧ r = some (.int 0) ∧ w = [(M, ob 5 (mF A ke ty 1 ap ft bo ot il)), (A 3, aI G 60 f3)]) ∨ (isR x 33 126 ∧ n = 60 ∧ r = some (.int 0) ∧ w = [(M, ob 5 (mF A ke ty 2 ap ft bo ot il)), (A 3, aI G 60 f3)]) ∨ (∃ j, 33 ≤ j ∧ j ≤ 126 ∧ x = nI j ∧ n < 60 ∧ r = some (.int (nI (n + 1))) ∧ w = [(M, ob 5 (mF A ke (nI (n + 1)) 0 ap ft bo ot il)), (A 3, aI G 60 (upd f3 n (nI j)))])) := by
  refine Con.mk (by decide +kernel) (Nat.le_of_ble_eq_true rfl) (fun P C Rr => ?_)
  refine st_aload_n C (dk DX6_append_0 0 rfl) rfl ?_
  refine st_iconst C (v := 0) (dk DX6_append_0 1 rfl) (by decide) ?_
  refine st_put C fl_RX6_40 fc_5 fw_5_6 (dk DX6_append_0 2 rfl) 0 rfl rfl rfl (Nat.le_of_ble_eq_true rfl) ?_
  refine st_iload_n C (dk DX6_append_0 3 rfl) rfl ?_
  refine st_bipush C (v := 33) (dk DX6_append_0 4 rfl) (by decide) ?_
  refine st_bipush C (v := 126) (dk DX6_append_0 5 rfl) (by decide) ?_
  refine st_cS C (k_X6_in l G) mf_X6_in ms_X6_in ml_RX6_44 (dk DX6_append_0 6 rfl) [] rfl rfl rfl rfl (Nat.le_of_ble_eq_true rfl) ⟨Nat.le_of_ble_eq_true rfl, Nat.le_of_ble_eq_true rfl⟩ ⟨Nat.zero_le _, Nat.zero_le _⟩ (fun r9 w9 hq9 => ?_)
  obtain ⟨rfl, rfl⟩ := hq9
  refine st_if_ne C (tgt := 22) (dk DX6_append_0 7 rfl) (by decide) (fun c_13 => ?_) (fun c_13 => ?_)
  · refine st_aload_n C (dk DX6_append_0 12 rfl) rfl ?_
    refine st_get C fl_RX6_129 (dk DX6_append_0 13 rfl) 0 rfl rfl ?_
    refine st_bipush C (v := 60) (dk DX6_append_0 14 rfl) (by decide) ?_
    refine st_icmp_ne C (tgt := 37) (dk DX6_append_0 15 rfl) (by decide) (fun c_28 => ?_) (fun c_28 => ?_)
    · obtain ⟨j, hj, hj2, rfl⟩ := rInRg_f (a := 33) (n := 126) (by decide) (by decide) rfl rfl c_13
      have hn60 : n < 60 := by
        have : ¬ n = 60 := fun h => c_28 (by rw [hty, h]; rfl)
        omega
      refine st_aload_n C (dk DX6_append_0 20 rfl) rfl ?_
      refine st_get C fl_RX6_19 (dk DX6_append_0 21 rfl) 0 rfl rfl ?_
      refine st_aload_n C (dk DX6_append_0 22 rfl) rfl ?_
      refine st_get C fl_RX6_129 (dk DX6_append_0 23 rfl) 0 rfl rfl ?_
      refine st_iload_n C (dk DX6_append_0 24 rfl) rfl ?_
      refine st_iast C (dk DX6_append_0 25 rfl) 1 rfl (vp_nI hty hn60 (by decide)) ?_
      refine st_aload_n C (dk DX6_append_0 26 rfl) rfl ?_
      refine st_dup C (dk DX6_append_0 27 rfl) rfl ?_
      refine st_get C fl_RX6_129 (dk DX6_append_0 28 rfl) 0 rfl rfl ?_
      refine st_iconst C (v := 1) (dk DX6_append_0 29 rfl) (by decide) ?_
      refine st_iadd C (dk DX6_append_0 30 rfl) ?_
      refine st_put C fl_RX6_129 fc_5 fw_5_5 (dk DX6_append_0 31 rfl) 0 rfl rfl rfl (Nat.le_of_ble_eq_true rfl) ?_
      refine st_aload_n C (dk DX6_append_0 32 rfl) rfl ?_
      refine st_get C fl_RX6_129 (dk DX6_append_0 33 rfl) 0 rfl rfl ?_
      exact Rr 0 0 _ _ _ _ _ _ (Nat.zero_le _) (Nat.zero_le _) (dk DX6_append_0 34 rfl) (.inr (.inl ⟨_, rfl, rfl, rfl, rfl⟩)) rfl ⟨rfl, Or.inr (Or.inr ⟨j, hj, hj2, rfl, hn60, by rw [hty, nI_1], by rw [hty, nI_1, cl_nI rfl (by omega)]; rfl⟩)⟩
    · refine st_aload_n C (dk DX6_append_0 16 rfl) rfl ?_
      refine st_iconst C (v := 2) (dk DX6_append_0 17 rfl) (by decide) ?_
      refine st_cV C (k_X6_fails l G) mf_X6_fails mi_X6_fails ml_RX6_59 (dk DX6_append_0 18 rfl) [0] rfl rfl rfl rfl (Nat.le_of_ble_eq_true rfl) rfl rfl ⟨Nat.le_of_ble_eq_true rfl, Nat.le_of_ble_eq_true rfl⟩ ⟨Nat.zero_le _, Nat.zero_le _⟩ (fun r9 w9 hq9 => ?_)
      obtain ⟨rfl, rfl⟩ := hq9
      exact Rr 0 0 _ _ _ _ _ _ (Nat.zero_le _) (Nat.zero_le _) (dk DX6_append_0 19 rfl) (.inr (.inl ⟨_, rfl, rfl, rfl, rfl⟩)) rfl ⟨rfl, Or.inr (Or.inl ⟨rInRg_f (a := 33) (n := 126) (by decide) (by decide) rfl rfl c_13, (eq_nI (a := n) (i := 60) (by omega) (by decide) hty rfl).mp c_28, rfl, rfl⟩)⟩
  · refine st_aload_n C (dk DX6_append_0 8 rfl) rfl ?_
    refine st_iconst C (v := 1) (dk DX6_append_0 9 rfl) (by decide) ?_
    refine st_cV C (k_X6_fails l G) mf_X6_fails mi_X6_fails ml_RX6_59 (dk DX6_append_0 10 rfl) [0] rfl rfl rfl rfl (Nat.le_of_ble_eq_true rfl) rfl rfl ⟨Nat.le_of_ble_eq_true rfl, Nat.le_of_ble_eq_true rfl⟩ ⟨Nat.zero_le _, Nat.zero_le _⟩ (fun r9 w9 hq9 => ?_)
    obtain ⟨rfl, rfl⟩ := hq9
    exact Rr 0 0 _ _ _ _ _ _ (Nat.zero_le _) (Nat.zero_le _) (dk DX6_append_0 11 rfl) (.inr (.inl ⟨_, rfl, rfl, rfl, rfl⟩)) rfl ⟨rfl, Or.inl ⟨rInRg_t (a := 33) (n := 126) (by decide) (by decide) rfl rfl c_13, rfl, rfl⟩⟩
set_option maxHeartbeats 4000000 in
set_option maxRecDepth 100000 in
theorem k_X6_clearBuffer (l : Launch) (G : wG) {M : Nat} {A : Nat → Nat} {ke ty th ap ft bo ot il : Int32} : Con0 l G yX6_clearBuffer cX6_clearBuffer 2 (some .int) 0 [.ref M] [(M, ob 5 (mF A ke ty th ap ft bo ot il))] (fun r w => r = some (.int ty) ∧ w = [(M, ob 5 (mF A ke 0 0 ap ft bo ot il))]) := by
  refine Con.mk (by decide +kernel) (Nat.le_of_ble_eq_true rfl) (fun P C Rr => ?_)
  refine st_aload_n C (dk DX6_clearBuffer_0 0 rfl) rfl ?_
  refine st_iconst C (v := 0) (dk DX6_clearBuffer_0 1 rfl) (by decide) ?_
  refine st_put C fl_RX6_40 fc_5 fw_5_6 (dk DX6_clearBuffer_0 2 rfl) 0 rfl rfl rfl (Nat.le_of_ble_eq_true rfl) ?_
  refine st_aload_n C (dk DX6_clearBuffer_0 3 rfl) rfl ?_
  refine st_get C fl_RX6_129 (dk DX6_clearBuffer_0 4 rfl) 0 rfl rfl ?_
  refine st_istore_n C (dk DX6_clearBuffer_0 5 rfl) (by decide) rfl ?_
  refine st_aload_n C (dk DX6_clearBuffer_0 6 rfl) rfl ?_
  refine st_iconst C (v := 0) (dk DX6_clearBuffer_0 7 rfl) (by decide) ?_
  refine st_put C fl_RX6_129 fc_5 fw_5_5 (dk DX6_clearBuffer_0 8 rfl) 0 rfl rfl rfl (Nat.le_of_ble_eq_true rfl) ?_
  refine st_iload_n C (dk DX6_clearBuffer_0 9 rfl) rfl ?_
  exact Rr 0 0 _ _ _ _ _ _ (Nat.zero_le _) (Nat.zero_le _) (dk DX6_clearBuffer_0 10 rfl) (.inr (.inl ⟨_, rfl, rfl, rfl, rfl⟩)) rfl ⟨rfl, ⟨rfl, rfl⟩⟩
set_option maxHeartbeats 4000000 in
set_option maxRecDepth 100000 in
theorem k_X6_walker (l : Launch) (G : wG) {M : Nat} {A : Nat → Nat} {ke ty th ap ft bo ot il : Int32} {s : mS} {f : Nat → Int32} {x : Int32} (hf : hd53 f s) : Con0 l G yX6_walker cX6_walker 2 (some .int) 1 [.ref M, .int x] [(M, ob 5 (mF A ke ty th ap ft bo ot il)), (A 0, aI G 53 f)] (fun r w => (¬ isN x 4 ∧ r = some (.int 0) ∧ w = [(M, ob 5 (mF A ke ty 1 ap ft bo ot il)), (A 0, aI G 53 f)]) ∨ (∃ j, j ≤ 4 ∧ x = nI j ∧ r = some (.int (nI (s (1 + j)))) ∧ w = [(M, ob 5 (mF A ke ty 0 ap ft bo ot il)), (A 0, aI G 53 f)])) := by
  refine Con.mk (by decide +kernel) (Nat.le_of_ble_eq_true rfl) (fun P C Rr => ?_)
  refine st_aload_n C (dk DX6_walker_0 0 rfl) rfl ?_
  refine st_iconst C (v := 0) (dk DX6_walker_0 1 rfl) (by decide) ?_
  refine st_put C fl_RX6_40 fc_5 fw_5_6 (dk DX6_walker_0 2 rfl) 0 rfl rfl rfl (Nat.le_of_ble_eq_true rfl) ?_
  refine st_iload_n C (dk DX6_walker_0 3 rfl) rfl ?_
  refine st_iconst C (v := 0) (dk DX6_walker_0 4 rfl) (by decide) ?_
  refine st_iconst C (v := 4) (dk DX6_walker_0 5 rfl) (by decide) ?_
  refine st_cS C (k_X6_in l G) mf_X6_in ms_X6_in ml_RX6_44 (dk DX6_walker_0 6 rfl) [] rfl rfl rfl rfl (Nat.le_of_ble_eq_true rfl) ⟨Nat.le_of_ble_eq_true rfl, Nat.le_of_ble_eq_true rfl⟩ ⟨Nat.zero_le _, Nat.zero_le _⟩ (fun r9 w9 hq9 => ?_)
  obtain ⟨rfl, rfl⟩ := hq9
  refine st_if_eq C (tgt := 25) (dk DX6_walker_0 7 rfl) (by decide) (fun c_11 => ?_) (fun c_11 => ?_)
  · refine st_aload_n C (dk DX6_walker_0 15 rfl) rfl ?_
    refine st_iconst C (v := 1) (dk DX6_walker_0 16 rfl) (by decide) ?_
    refine st_cV C (k_X6_fails l G) mf_X6_fails mi_X6_fails ml_RX6_59 (dk DX6_walker_0 17 rfl) [0] rfl rfl rfl rfl (Nat.le_of_ble_eq_true rfl) rfl rfl ⟨Nat.le_of_ble_eq_true rfl, Nat.le_of_ble_eq_true rfl⟩ ⟨Nat.zero_le _, Nat.zero_le _⟩ (fun r9 w9 hq9 => ?_)
    obtain ⟨rfl, rfl⟩ := hq9
    exact Rr 0 0 _ _ _ _ _ _ (Nat.zero_le _) (Nat.zero_le _) (dk DX6_walker_0 18 rfl) (.inr (.inl ⟨_, rfl, rfl, rfl, rfl⟩)) rfl ⟨rfl, Or.inl ⟨rInR_t (n := 4) (by decide) rfl c_11, rfl, rfl⟩⟩
  · obtain ⟨j, hj, rfl⟩ := rInR_f (n := 4) (by decide) rfl c_11
    refine st_aload_n C (dk DX6_walker_0 8 rfl) rfl ?_
    refine st_get C fl_RX6_7 (dk DX6_walker_0 9 rfl) 0 rfl rfl ?_
    refine st_iconst C (v := 1) (dk DX6_walker_0 10 rfl) (by decide) ?_
    refine st_iload_n C (dk DX6_walker_0 11 rfl) rfl ?_
    refine st_iadd C (dk DX6_walker_0 12 rfl) ?_
    refine st_iald C (dk DX6_walker_0 13 rfl) 1 rfl (vpA (k := 1) rfl (by omega) (by decide)) ?_
    refine st_goto C (tgt := 30) (dk DX6_walker_0 14 rfl) (by decide) ?_
    exact Rr 0 0 _ _ _ _ _ _ (Nat.zero_le _) (Nat.zero_le _) (dk DX6_walker_0 18 rfl) (.inr (.inl ⟨_, rfl, rfl, rfl, rfl⟩)) rfl ⟨rfl, Or.inr ⟨j, hj, rfl, by rw [show f ((1 : Int32) + nI j).toNatClampNeg = nI (s (1 + j)) from hf.at (nadd 1 j rfl) (by omega)], rfl⟩⟩
set_option maxHeartbeats 4000000 in
set_option maxRecDepth 100000 in
theorem k_X6_refusal (l : Launch) (G : wG) {M : Nat} {A : Nat → Nat} {ke ty th ap ft bo ot il : Int32} {s : mS} {f : Nat → Int32} {x : Int32} (hf : hd53 f s) (hok : mOk s) : Con0 l G yX6_refusal cX6_refusal 2 (some .int) 5 [.ref M, .int x] [(M, ob 5 (mF A ke ty th ap ft bo ot il)), (A 0, aI G 53 f)] (fun r w => (¬ isN x 4 ∧ r = some (.int 0) ∧ w = [(M, ob 5 (mF A ke ty 1 ap ft bo ot il)), (A 0, aI G 53 f)]) ∨ (∃ st, st ≤ 4 ∧ x = nI st ∧ r = some (.int (nI (refN s st))) ∧ w = [(M, ob 5 (mF A ke ty 0 ap ft bo ot il)), (A 0, aI G 53 f)])) := by
  refine Con.mk (by decide +kernel) (Nat.le_of_ble_eq_true rfl) (fun P C Rr => ?_)
  refine st_aload_n C (dk DX6_refusal_0 0 rfl) rfl ?_
  refine st_iconst C (v := 0) (dk DX6_refusal_0 1 rfl) (by decide) ?_
  refine st_put C fl_RX6_40 fc_5 fw_5_6 (dk DX6_refusal_0 2 rfl) 0 rfl rfl rfl (Nat.le_of_ble_eq_true rfl) ?_
  refine st_iload_n C (dk DX6_refusal_0 3 rfl) rfl ?_
  refine st_iconst C (v := 0) (dk DX6_refusal_0 4 rfl) (by decide) ?_
  refine st_iconst C (v := 4) (dk DX6_refusal_0 5 rfl) (by decide) ?_
  refine st_cS C (k_X6_in l G) mf_X6_in ms_X6_in ml_RX6_44 (dk DX6_refusal_0 6 rfl) [] rfl rfl rfl rfl (Nat.le_of_ble_eq_true rfl) ⟨Nat.le_of_ble_eq_true rfl, Nat.le_of_ble_eq_true rfl⟩ ⟨Nat.zero_le _, Nat.zero_le _⟩ (fun r9 w9 hq9 => ?_)
  obtain ⟨rfl, rfl⟩ := hq9
  refine st_if_eq C (tgt := 25) (dk DX6_refusal_0 7 rfl) (by decide) (fun c_11 => ?_) (fun c_11 => ?_)
  · refine st_aload_n C (dk DX6_refusal_0 13 rfl) rfl ?_
    refine st_iconst C (v := 1) (dk DX6_refusal_0 14 rfl) (by decide) ?_
    refine st_cV C (k_X6_fails l G) mf_X6_fails mi_X6_fails ml_RX6_59 (dk DX6_refusal_0 15 rfl) [0] rfl rfl rfl rfl (Nat.le_of_ble_eq_true rfl) rfl rfl ⟨Nat.le_of_ble_eq_true rfl, Nat.le_of_ble_eq_true rfl⟩ ⟨Nat.zero_le _, Nat.zero_le _⟩ (fun r9 w9 hq9 => ?_)
    obtain ⟨rfl, rfl⟩ := hq9
    exact Rr 0 0 _ _ _ _ _ _ (Nat.zero_le _) (Nat.zero_le _) (dk DX6_refusal_0 16 rfl) (.inr (.inl ⟨_, rfl, rfl, rfl, rfl⟩)) rfl ⟨rfl, Or.inl ⟨rInR_t (n := 4) (by decide) rfl c_11, rfl, rfl⟩⟩
  · obtain ⟨st, hst, rfl⟩ := rInR_f (n := 4) (by decide) rfl c_11
    refine st_aload_n C (dk DX6_refusal_0 8 rfl) rfl ?_
    refine st_get C fl_RX6_7 (dk DX6_refusal_0 9 rfl) 0 rfl rfl ?_
    refine st_iload_n C (dk DX6_refusal_0 10 rfl) rfl ?_
    refine st_cS C (k_X6_refused l G hf hok rfl (by omega : st < 5)) mf_X6_refused ms_X6_refused ml_RX6_116 (dk DX6_refusal_0 11 rfl) [1] rfl rfl rfl rfl (Nat.le_of_ble_eq_true rfl) ⟨Nat.le_of_ble_eq_true rfl, Nat.le_of_ble_eq_true rfl⟩ ⟨Nat.zero_le _, Nat.zero_le _⟩ (fun r9 w9 hq9 => ?_)
    obtain ⟨rfl, rfl⟩ := hq9
    refine st_goto C (tgt := 30) (dk DX6_refusal_0 12 rfl) (by decide) ?_
    exact Rr 0 0 _ _ _ _ _ _ (Nat.zero_le _) (Nat.zero_le _) (dk DX6_refusal_0 16 rfl) (.inr (.inl ⟨_, rfl, rfl, rfl, rfl⟩)) rfl ⟨rfl, Or.inr ⟨st, hst, rfl, rfl, rfl⟩⟩
