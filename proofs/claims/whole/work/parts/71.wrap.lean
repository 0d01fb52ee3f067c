/-! the law's own methods: each catches what the landed class throws -/
set_option maxHeartbeats 4000000 in
set_option maxRecDepth 100000 in
theorem kw_door (l : Launch) (G : wG) (hlt : l.stackTraces = false) {K p q1 q2 o v v1 t y : Nat} {s : mS} {ns lk ld : Nat → Int32} {u u1 u2 : Nat → Nat} {nx sz : Int32} {rs rl rd : Nat → Nat → Int32} {k : Nat} {pp : Nat → mS} {x z : Int32} {e : Nat} {og : Nat → Int64} (hC : CRep s ns lk ld) (hSv : SvR k pp nx sz rs rl rd) : ConH l G yL_door cL_door 5 (some .int) hh_L_door 7 1 6 [.ref K, .int x, .int z, .ref e] [(K, ob 4 (kF p o v t y)), (p, ob 0 (cR q1 q2 ns)), (q1, aI G 15 lk), (q2, aI G 16 ld), (v, ob 1 (vF v1 nx sz)), (v1, aQ G 6 (fun k => some (u k))), (u 0, ob 0 (cR (u1 0) (u2 0) (rs 0))), (u1 0, aI G 15 (rl 0)), (u2 0, aI G 16 (rd 0)), (u 1, ob 0 (cR (u1 1) (u2 1) (rs 1))), (u1 1, aI G 15 (rl 1)), (u2 1, aI G 16 (rd 1)), (u 2, ob 0 (cR (u1 2) (u2 2) (rs 2))), (u1 2, aI G 15 (rl 2)), (u2 2, aI G 16 (rd 2)), (u 3, ob 0 (cR (u1 3) (u2 3) (rs 3))), (u1 3, aI G 15 (rl 3)), (u2 3, aI G 16 (rd 3)), (u 4, ob 0 (cR (u1 4) (u2 4) (rs 4))), (u1 4, aI G 15 (rl 4)), (u2 4, aI G 16 (rd 4)), (u 5, ob 0 (cR (u1 5) (u2 5) (rs 5))), (u1 5, aI G 15 (rl 5)), (u2 5, aI G 16 (rd 5)), (e, aJ G 1 og)] (fun r w1 w2 => w2 = [] ∧ ((∃ j i, j ≤ 14 ∧ i ≤ 5 ∧ x = nI j ∧ z = nI i ∧ r = some (.int 0) ∧ ∃ (ns9 lk9 ld9 : Nat → Int32) (nx9 sz9 : Int32) (rs9 rl9 rd9 : Nat → Nat → Int32), CRep (updS s (22 + j) i) ns9 lk9 ld9 ∧ SvR (svK k) (svP s k pp) nx9 sz9 rs9 rl9 rd9 ∧ w1 = [(K, ob 4 (kF p o v t y)), (p, ob 0 (cR q1 q2 ns9)), (q1, aI G 15 lk9), (q2, aI G 16 ld9), (v, ob 1 (vF v1 nx9 sz9)), (v1, aQ G 6 (fun k => some (u k))), (u 0, ob 0 (cR (u1 0) (u2 0) (rs9 0))), (u1 0, aI G 15 (rl9 0)), (u2 0, aI G 16 (rd9 0)), (u 1, ob 0 (cR (u1 1) (u2 1) (rs9 1))), (u1 1, aI G 15 (rl9 1)), (u2 1, aI G 16 (rd9 1)), (u 2, ob 0 (cR (u1 2) (u2 2) (rs9 2))), (u1 2, aI G 15 (rl9 2)), (u2 2, aI G 16 (rd9 2)), (u 3, ob 0 (cR (u1 3) (u2 3) (rs9 3))), (u1 3, aI G 15 (rl9 3)), (u2 3, aI G 16 (rd9 3)), (u 4, ob 0 (cR (u1 4) (u2 4) (rs9 4))), (u1 4, aI G 15 (rl9 4)), (u2 4, aI G 16 (rd9 4)), (u 5, ob 0 (cR (u1 5) (u2 5) (rs9 5))), (u1 5, aI G 15 (rl9 5)), (u2 5, aI G 16 (rd9 5)), (e, aJ G 1 (vp_updL og 0 (Int32.toInt64 (nI (s (22 + j))))))]) ∨ (r = some (.int 1) ∧ ¬ isN x 14 ∧ w1 = [(K, ob 4 (kF p o v t y)), (p, ob 0 (cR q1 q2 ns)), (q1, aI G 15 lk), (q2, aI G 16 ld), (v, ob 1 (vF v1 nx sz)), (v1, aQ G 6 (fun k => some (u k))), (u 0, ob 0 (cR (u1 0) (u2 0) (rs 0))), (u1 0, aI G 15 (rl 0)), (u2 0, aI G 16 (rd 0)), (u 1, ob 0 (cR (u1 1) (u2 1) (rs 1))), (u1 1, aI G 15 (rl 1)), (u2 1, aI G 16 (rd 1)), (u 2, ob 0 (cR (u1 2) (u2 2) (rs 2))), (u1 2, aI G 15 (rl 2)), (u2 2, aI G 16 (rd 2)), (u 3, ob 0 (cR (u1 3) (u2 3) (rs 3))), (u1 3, aI G 15 (rl 3)), (u2 3, aI G 16 (rd 3)), (u 4, ob 0 (cR (u1 4) (u2 4) (rs 4))), (u1 4, aI G 15 (rl 4)), (u2 4, aI G 16 (rd 4)), (u 5, ob 0 (cR (u1 5) (u2 5) (rs 5))), (u1 5, aI G 15 (rl 5)), (u2 5, aI G 16 (rd 5)), (e, aJ G 1 og)]) ∨ (r = some (.int 2) ∧ isN x 14 ∧ ¬ isN z 5 ∧ w1 = [(K, ob 4 (kF p o v t y)), (p, ob 0 (cR q1 q2 ns)), (q1, aI G 15 lk), (q2, aI G 16 ld), (v, ob 1 (vF v1 nx sz)), (v1, aQ G 6 (fun k => some (u k))), (u 0, ob 0 (cR (u1 0) (u2 0) (rs 0))), (u1 0, aI G 15 (rl 0)), (u2 0, aI G 16 (rd 0)), (u 1, ob 0 (cR (u1 1) (u2 1) (rs 1))), (u1 1, aI G 15 (rl 1)), (u2 1, aI G 16 (rd 1)), (u 2, ob 0 (cR (u1 2) (u2 2) (rs 2))), (u1 2, aI G 15 (rl 2)), (u2 2, aI G 16 (rd 2)), (u 3, ob 0 (cR (u1 3) (u2 3) (rs 3))), (u1 3, aI G 15 (rl 3)), (u2 3, aI G 16 (rd 3)), (u 4, ob 0 (cR (u1 4) (u2 4) (rs 4))), (u1 4, aI G 15 (rl 4)), (u2 4, aI G 16 (rd 4)), (u 5, ob 0 (cR (u1 5) (u2 5) (rs 5))), (u1 5, aI G 15 (rl 5)), (u2 5, aI G 16 (rd 5)), (e, aJ G 1 og)]))) := by
  refine ConH.mk (by decide +kernel) (Nat.le_of_ble_eq_true rfl) (fun P C Rr => ?_)
  refine st_aload_n C.cx (dk DL_door_0 0 rfl) rfl ?_
  refine st_iconst C.cx (v := 0) (dk DL_door_0 1 rfl) (by decide) ?_
  refine st_aload_n C.cx (dk DL_door_0 2 rfl) rfl ?_
  refine st_iload_n C.cx (dk DL_door_0 3 rfl) rfl ?_
  refine st_iload_n C.cx (dk DL_door_0 4 rfl) rfl ?_
  refine st_callX C (k_X5_door l G hlt hC hSv) mf_X5_door mi_X5_door mq_RL_7 (dk DL_door_0 5 rfl) [0, 1, 2, 3, 4, 5, 6, 7, 8, 9, 10, 11, 12, 13, 14, 15, 16, 17, 18, 19, 20, 21, 22, 23] (hC_cons rfl (hC_cons rfl (hC_cons rfl (hC_cons rfl (hC_cons rfl (hC_cons rfl (hC_cons rfl (hC_cons rfl (hC_cons rfl (hC_cons rfl (hC_cons rfl (hC_cons rfl (hC_cons rfl (hC_cons rfl (hC_cons rfl (hC_cons rfl (hC_cons rfl (hC_cons rfl (hC_cons rfl (hC_cons rfl (hC_cons rfl (hC_cons rfl (hC_cons rfl (hC_cons rfl (hC_nil))))))))))))))))))))))))) (by decide +kernel) rfl rfl (Nat.le_of_ble_eq_true rfl) rfl rfl ⟨Nat.le_of_ble_eq_true rfl, Nat.le_of_ble_eq_true rfl⟩ ⟨Nat.le_of_ble_eq_true rfl, Nat.le_of_ble_eq_true rfl⟩ (fun E w9 hq9 => ?_) (fun r9 w9 v9 hq9 => ?_)
  · rcases hq9 with ⟨rfl, h_1, rfl⟩ | ⟨rfl, h_1, h_2, rfl⟩
    · refine ⟨13, hd_L_door_xIO, fun q9 => ?_⟩
      simp only [put_cons, put_nil, List.set_cons_zero, List.set_cons_succ]
      refine st_astore C.cx (dk DL_door_0 9 rfl) (by decide) rfl ?_
      refine st_iconst C.cx (v := 1) (dk DL_door_0 10 rfl) (by decide) ?_
      exact Rr _ _ _ _ _ _ _ _ (Nat.le_of_ble_eq_true rfl) (Nat.le_of_ble_eq_true rfl) (dk DL_door_0 11 rfl) (.inr (.inl ⟨_, rfl, rfl, rfl, rfl⟩)) rfl ⟨rfl, Or.inr (Or.inl ⟨rfl, h_1, rfl⟩)⟩
    · refine ⟨17, hd_L_door_xIA, fun q9 => ?_⟩
      simp only [put_cons, put_nil, List.set_cons_zero, List.set_cons_succ]
      refine st_astore C.cx (dk DL_door_0 12 rfl) (by decide) rfl ?_
      refine st_iconst C.cx (v := 2) (dk DL_door_0 13 rfl) (by decide) ?_
      exact Rr _ _ _ _ _ _ _ _ (Nat.le_of_ble_eq_true rfl) (Nat.le_of_ble_eq_true rfl) (dk DL_door_0 14 rfl) (.inr (.inl ⟨_, rfl, rfl, rfl, rfl⟩)) rfl ⟨rfl, Or.inr (Or.inr (⟨rfl, h_1, h_2, rfl⟩))⟩
  · obtain ⟨rfl, j, i, h_1, h_2, h_3, h_4, rfl, ns9, lk9, ld9, nx9, sz9, rs9, rl9, rd9, h_5, h_6, rfl⟩ := hq9
    simp only [put_cons, put_nil, List.set_cons_zero, List.set_cons_succ]
    refine st_i2l C.cx (dk DL_door_0 6 rfl) ?_
    refine st_last C.cx (dk DL_door_0 7 rfl) 24 rfl (by unfold vp_in; decide) ?_
    refine st_goto C.cx (tgt := 21) (dk DL_door_0 8 rfl) (by decide) ?_
    refine st_iconst C.cx (v := 0) (dk DL_door_0 15 rfl) (by decide) ?_
    exact Rr _ _ _ _ _ _ _ _ (Nat.le_of_ble_eq_true rfl) (Nat.le_of_ble_eq_true rfl) (dk DL_door_0 16 rfl) (.inr (.inl ⟨_, rfl, rfl, rfl, rfl⟩)) rfl ⟨rfl, Or.inl ⟨j, i, h_1, h_2, h_3, h_4, rfl, ns9, lk9, ld9, nx9, sz9, rs9, rl9, rd9, h_5, h_6, rfl⟩⟩
set_option maxHeartbeats 4000000 in
set_option maxRecDepth 100000 in
theorem kw_key (l : Launch) (G : wG) (hlt : l.stackTraces = false) {K p q1 q2 o v v1 t y : Nat} {s : mS} {ns lk ld : Nat → Int32} {u u1 u2 : Nat → Nat} {nx sz : Int32} {rs rl rd : Nat → Nat → Int32} {k : Nat} {pp : Nat → mS} {x z : Int32} {e : Nat} {og : Nat → Int64} (hC : CRep s ns lk ld) (hSv : SvR k pp nx sz rs rl rd) : ConH l G yL_key cL_key 5 (some .int) hh_L_key 7 1 6 [.ref K, .int x, .int z, .ref e] [(K, ob 4 (kF p o v t y)), (p, ob 0 (cR q1 q2 ns)), (q1, aI G 15 lk), (q2, aI G 16 ld), (v, ob 1 (vF v1 nx sz)), (v1, aQ G 6 (fun k => some (u k))), (u 0, ob 0 (cR (u1 0) (u2 0) (rs 0))), (u1 0, aI G 15 (rl 0)), (u2 0, aI G 16 (rd 0)), (u 1, ob 0 (cR (u1 1) (u2 1) (rs 1))), (u1 1, aI G 15 (rl 1)), (u2 1, aI G 16 (rd 1)), (u 2, ob 0 (cR (u1 2) (u2 2) (rs 2))), (u1 2, aI G 15 (rl 2)), (u2 2, aI G 16 (rd 2)), (u 3, ob 0 (cR (u1 3) (u2 3) (rs 3))), (u1 3, aI G 15 (rl 3)), (u2 3, aI G 16 (rd 3)), (u 4, ob 0 (cR (u1 4) (u2 4) (rs 4))), (u1 4, aI G 15 (rl 4)), (u2 4, aI G 16 (rd 4)), (u 5, ob 0 (cR (u1 5) (u2 5) (rs 5))), (u1 5, aI G 15 (rl 5)), (u2 5, aI G 16 (rd 5)), (e, aJ G 1 og)] (fun r w1 w2 => w2 = [] ∧ ((∃ j i, j ≤ 15 ∧ i ≤ 5 ∧ x = nI j ∧ z = nI i ∧ ¬ (0 < i ∧ s (6 + j) = 0 ∧ kcN s 16 = 2) ∧ r = some (.int 0) ∧ ∃ (ns9 lk9 ld9 : Nat → Int32) (nx9 sz9 : Int32) (rs9 rl9 rd9 : Nat → Nat → Int32), CRep (updS s (6 + j) i) ns9 lk9 ld9 ∧ SvR (svK k) (svP s k pp) nx9 sz9 rs9 rl9 rd9 ∧ w1 = [(K, ob 4 (kF p o v t y)), (p, ob 0 (cR q1 q2 ns9)), (q1, aI G 15 lk9), (q2, aI G 16 ld9), (v, ob 1 (vF v1 nx9 sz9)), (v1, aQ G 6 (fun k => some (u k))), (u 0, ob 0 (cR (u1 0) (u2 0) (rs9 0))), (u1 0, aI G 15 (rl9 0)), (u2 0, aI G 16 (rd9 0)), (u 1, ob 0 (cR (u1 1) (u2 1) (rs9 1))), (u1 1, aI G 15 (rl9 1)), (u2 1, aI G 16 (rd9 1)), (u 2, ob 0 (cR (u1 2) (u2 2) (rs9 2))), (u1 2, aI G 15 (rl9 2)), (u2 2, aI G 16 (rd9 2)), (u 3, ob 0 (cR (u1 3) (u2 3) (rs9 3))), (u1 3, aI G 15 (rl9 3)), (u2 3, aI G 16 (rd9 3)), (u 4, ob 0 (cR (u1 4) (u2 4) (rs9 4))), (u1 4, aI G 15 (rl9 4)), (u2 4, aI G 16 (rd9 4)), (u 5, ob 0 (cR (u1 5) (u2 5) (rs9 5))), (u1 5, aI G 15 (rl9 5)), (u2 5, aI G 16 (rd9 5)), (e, aJ G 1 (vp_updL og 0 (Int32.toInt64 (nI (s (6 + j))))))]) ∨ (r = some (.int 1) ∧ ¬ isN x 15 ∧ w1 = [(K, ob 4 (kF p o v t y)), (p, ob 0 (cR q1 q2 ns)), (q1, aI G 15 lk), (q2, aI G 16 ld), (v, ob 1 (vF v1 nx sz)), (v1, aQ G 6 (fun k => some (u k))), (u 0, ob 0 (cR (u1 0) (u2 0) (rs 0))), (u1 0, aI G 15 (rl 0)), (u2 0, aI G 16 (rd 0)), (u 1, ob 0 (cR (u1 1) (u2 1) (rs 1))), (u1 1, aI G 15 (rl 1)), (u2 1, aI G 16 (rd 1)), (u 2, ob 0 (cR (u1 2) (u2 2) (rs 2))), (u1 2, aI G 15 (rl 2)), (u2 2, aI G 16 (rd 2)), (u 3, ob 0 (cR (u1 3) (u2 3) (rs 3))), (u1 3, aI G 15 (rl 3)), (u2 3, aI G 16 (rd 3)), (u 4, ob 0 (cR (u1 4) (u2 4) (rs 4))), (u1 4, aI G 15 (rl 4)), (u2 4, aI G 16 (rd 4)), (u 5, ob 0 (cR (u1 5) (u2 5) (rs 5))), (u1 5, aI G 15 (rl 5)), (u2 5, aI G 16 (rd 5)), (e, aJ G 1 og)]) ∨ (r = some (.int 2) ∧ isN x 15 ∧ ¬ isN z 5 ∧ w1 = [(K, ob 4 (kF p o v t y)), (p, ob 0 (cR q1 q2 ns)), (q1, aI G 15 lk), (q2, aI G 16 ld), (v, ob 1 (vF v1 nx sz)), (v1, aQ G 6 (fun k => some (u k))), (u 0, ob 0 (cR (u1 0) (u2 0) (rs 0))), (u1 0, aI G 15 (rl 0)), (u2 0, aI G 16 (rd 0)), (u 1, ob 0 (cR (u1 1) (u2 1) (rs 1))), (u1 1, aI G 15 (rl 1)), (u2 1, aI G 16 (rd 1)), (u 2, ob 0 (cR (u1 2) (u2 2) (rs 2))), (u1 2, aI G 15 (rl 2)), (u2 2, aI G 16 (rd 2)), (u 3, ob 0 (cR (u1 3) (u2 3) (rs 3))), (u1 3, aI G 15 (rl 3)), (u2 3, aI G 16 (rd 3)), (u 4, ob 0 (cR (u1 4) (u2 4) (rs 4))), (u1 4, aI G 15 (rl 4)), (u2 4, aI G 16 (rd 4)), (u 5, ob 0 (cR (u1 5) (u2 5) (rs 5))), (u1 5, aI G 15 (rl 5)), (u2 5, aI G 16 (rd 5)), (e, aJ G 1 og)]) ∨ (r = some (.int 3) ∧ ∃ j i, j ≤ 15 ∧ i ≤ 5 ∧ x = nI j ∧ z = nI i ∧ (0 < i ∧ s (6 + j) = 0 ∧ kcN s 16 = 2) ∧ w1 = [(K, ob 4 (kF p o v t y)), (p, ob 0 (cR q1 q2 ns)), (q1, aI G 15 lk), (q2, aI G 16 ld), (v, ob 1 (vF v1 nx sz)), (v1, aQ G 6 (fun k => some (u k))), (u 0, ob 0 (cR (u1 0) (u2 0) (rs 0))), (u1 0, aI G 15 (rl 0)), (u2 0, aI G 16 (rd 0)), (u 1, ob 0 (cR (u1 1) (u2 1) (rs 1))), (u1 1, aI G 15 (rl 1)), (u2 1, aI G 16 (rd 1)), (u 2, ob 0 (cR (u1 2) (u2 2) (rs 2))), (u1 2, aI G 15 (rl 2)), (u2 2, aI G 16 (rd 2)), (u 3, ob 0 (cR (u1 3) (u2 3) (rs 3))), (u1 3, aI G 15 (rl 3)), (u2 3, aI G 16 (rd 3)), (u 4, ob 0 (cR (u1 4) (u2 4) (rs 4))), (u1 4, aI G 15 (rl 4)), (u2 4, aI G 16 (rd 4)), (u 5, ob 0 (cR (u1 5) (u2 5) (rs 5))), (u1 5, aI G 15 (rl 5)), (u2 5, aI G 16 (rd 5)), (e, aJ G 1 og)]))) := by
  refine ConH.mk (by decide +kernel) (Nat.le_of_ble_eq_true rfl) (fun P C Rr => ?_)
  refine st_aload_n C.cx (dk DL_key_0 0 rfl) rfl ?_
  refine st_iconst C.cx (v := 0) (dk DL_key_0 1 rfl) (by decide) ?_
  refine st_aload_n C.cx (dk DL_key_0 2 rfl) rfl ?_
  refine st_iload_n C.cx (dk DL_key_0 3 rfl) rfl ?_
  refine st_iload_n C.cx (dk DL_key_0 4 rfl) rfl ?_
  refine st_callX C (k_X5_key l G hlt hC hSv) mf_X5_key mi_X5_key mq_RL_17 (dk DL_key_0 5 rfl) [0, 1, 2, 3, 4, 5, 6, 7, 8, 9, 10, 11, 12, 13, 14, 15, 16, 17, 18, 19, 20, 21, 22, 23] (hC_cons rfl (hC_cons rfl (hC_cons rfl (hC_cons rfl (hC_cons rfl (hC_cons rfl (hC_cons rfl (hC_cons rfl (hC_cons rfl (hC_cons rfl (hC_cons rfl (hC_cons rfl (hC_cons rfl (hC_cons rfl (hC_cons rfl (hC_cons rfl (hC_cons rfl (hC_cons rfl (hC_cons rfl (hC_cons rfl (hC_cons rfl (hC_cons rfl (hC_cons rfl (hC_cons rfl (hC_nil))))))))))))))))))))))))) (by decide +kernel) rfl rfl (Nat.le_of_ble_eq_true rfl) rfl rfl ⟨Nat.le_of_ble_eq_true rfl, Nat.le_of_ble_eq_true rfl⟩ ⟨Nat.le_of_ble_eq_true rfl, Nat.le_of_ble_eq_true rfl⟩ (fun E w9 hq9 => ?_) (fun r9 w9 v9 hq9 => ?_)
  · rcases hq9 with ⟨rfl, h_1, rfl⟩ | ⟨rfl, h_1, h_2, rfl⟩ | ⟨rfl, j, i, h_1, h_2, h_3, h_4, h_5, rfl⟩
    · refine ⟨13, hd_L_key_xIO, fun q9 => ?_⟩
      simp only [put_cons, put_nil, List.set_cons_zero, List.set_cons_succ]
      refine st_astore C.cx (dk DL_key_0 9 rfl) (by decide) rfl ?_
      refine st_iconst C.cx (v := 1) (dk DL_key_0 10 rfl) (by decide) ?_
      exact Rr _ _ _ _ _ _ _ _ (Nat.le_of_ble_eq_true rfl) (Nat.le_of_ble_eq_true rfl) (dk DL_key_0 11 rfl) (.inr (.inl ⟨_, rfl, rfl, rfl, rfl⟩)) rfl ⟨rfl, Or.inr (Or.inl ⟨rfl, h_1, rfl⟩)⟩
    · refine ⟨17, hd_L_key_xIA, fun q9 => ?_⟩
      simp only [put_cons, put_nil, List.set_cons_zero, List.set_cons_succ]
      refine st_astore C.cx (dk DL_key_0 12 rfl) (by decide) rfl ?_
      refine st_iconst C.cx (v := 2) (dk DL_key_0 13 rfl) (by decide) ?_
      exact Rr _ _ _ _ _ _ _ _ (Nat.le_of_ble_eq_true rfl) (Nat.le_of_ble_eq_true rfl) (dk DL_key_0 14 rfl) (.inr (.inl ⟨_, rfl, rfl, rfl, rfl⟩)) rfl ⟨rfl, Or.inr (Or.inr (Or.inl ⟨rfl, h_1, h_2, rfl⟩))⟩
    · refine ⟨21, hd_L_key_xIS, fun q9 => ?_⟩
      simp only [put_cons, put_nil, List.set_cons_zero, List.set_cons_succ]
      refine st_astore C.cx (dk DL_key_0 15 rfl) (by decide) rfl ?_
      refine st_iconst C.cx (v := 3) (dk DL_key_0 16 rfl) (by decide) ?_
      exact Rr _ _ _ _ _ _ _ _ (Nat.le_of_ble_eq_true rfl) (Nat.le_of_ble_eq_true rfl) (dk DL_key_0 17 rfl) (.inr (.inl ⟨_, rfl, rfl, rfl, rfl⟩)) rfl ⟨rfl, Or.inr (Or.inr (Or.inr (⟨rfl, j, i, h_1, h_2, h_3, h_4, h_5, rfl⟩)))⟩
  · obtain ⟨rfl, j, i, h_1, h_2, h_3, h_4, h_5, rfl, ns9, lk9, ld9, nx9, sz9, rs9, rl9, rd9, h_6, h_7, rfl⟩ := hq9
    simp only [put_cons, put_nil, List.set_cons_zero, List.set_cons_succ]
    refine st_i2l C.cx (dk DL_key_0 6 rfl) ?_
    refine st_last C.cx (dk DL_key_0 7 rfl) 24 rfl (by unfold vp_in; decide) ?_
    refine st_goto C.cx (tgt := 25) (dk DL_key_0 8 rfl) (by decide) ?_
    refine st_iconst C.cx (v := 0) (dk DL_key_0 18 rfl) (by decide) ?_
    exact Rr _ _ _ _ _ _ _ _ (Nat.le_of_ble_eq_true rfl) (Nat.le_of_ble_eq_true rfl) (dk DL_key_0 19 rfl) (.inr (.inl ⟨_, rfl, rfl, rfl, rfl⟩)) rfl ⟨rfl, Or.inl ⟨j, i, h_1, h_2, h_3, h_4, h_5, rfl, ns9, lk9, ld9, nx9, sz9, rs9, rl9, rd9, h_6, h_7, rfl⟩⟩
set_option maxHeartbeats 4000000 in
set_option maxRecDepth 100000 in
theorem kw_ladder (l : Launch) (G : wG) (hlt : l.stackTraces = false) {K p q1 q2 o v v1 t y : Nat} {s : mS} {ns lk ld : Nat → Int32} {u u1 u2 : Nat → Nat} {nx sz : Int32} {rs rl rd : Nat → Nat → Int32} {k : Nat} {pp : Nat → mS} {x z : Int32} {e : Nat} {og : Nat → Int64} (hC : CRep s ns lk ld) (hSv : SvR k pp nx sz rs rl rd) : ConH l G yL_ladder cL_ladder 5 (some .int) hh_L_ladder 7 1 6 [.ref K, .int x, .int z, .ref e] [(K, ob 4 (kF p o v t y)), (p, ob 0 (cR q1 q2 ns)), (q1, aI G 15 lk), (q2, aI G 16 ld), (v, ob 1 (vF v1 nx sz)), (v1, aQ G 6 (fun k => some (u k))), (u 0, ob 0 (cR (u1 0) (u2 0) (rs 0))), (u1 0, aI G 15 (rl 0)), (u2 0, aI G 16 (rd 0)), (u 1, ob 0 (cR (u1 1) (u2 1) (rs 1))), (u1 1, aI G 15 (rl 1)), (u2 1, aI G 16 (rd 1)), (u 2, ob 0 (cR (u1 2) (u2 2) (rs 2))), (u1 2, aI G 15 (rl 2)), (u2 2, aI G 16 (rd 2)), (u 3, ob 0 (cR (u1 3) (u2 3) (rs 3))), (u1 3, aI G 15 (rl 3)), (u2 3, aI G 16 (rd 3)), (u 4, ob 0 (cR (u1 4) (u2 4) (rs 4))), (u1 4, aI G 15 (rl 4)), (u2 4, aI G 16 (rd 4)), (u 5, ob 0 (cR (u1 5) (u2 5) (rs 5))), (u1 5, aI G 15 (rl 5)), (u2 5, aI G 16 (rd 5)), (e, aJ G 1 og)] (fun r w1 w2 => w2 = [] ∧ ((∃ j, j ≤ 15 ∧ x = nI j ∧ r = some (.int 0) ∧ ∃ (ns9 lk9 ld9 : Nat → Int32) (nx9 sz9 : Int32) (rs9 rl9 rd9 : Nat → Nat → Int32), CRep (updS s (37 + j) (if z = 0 then 0 else 1)) ns9 lk9 ld9 ∧ SvR (svK k) (svP s k pp) nx9 sz9 rs9 rl9 rd9 ∧ w1 = [(K, ob 4 (kF p o v t y)), (p, ob 0 (cR q1 q2 ns9)), (q1, aI G 15 lk9), (q2, aI G 16 ld9), (v, ob 1 (vF v1 nx9 sz9)), (v1, aQ G 6 (fun k => some (u k))), (u 0, ob 0 (cR (u1 0) (u2 0) (rs9 0))), (u1 0, aI G 15 (rl9 0)), (u2 0, aI G 16 (rd9 0)), (u 1, ob 0 (cR (u1 1) (u2 1) (rs9 1))), (u1 1, aI G 15 (rl9 1)), (u2 1, aI G 16 (rd9 1)), (u 2, ob 0 (cR (u1 2) (u2 2) (rs9 2))), (u1 2, aI G 15 (rl9 2)), (u2 2, aI G 16 (rd9 2)), (u 3, ob 0 (cR (u1 3) (u2 3) (rs9 3))), (u1 3, aI G 15 (rl9 3)), (u2 3, aI G 16 (rd9 3)), (u 4, ob 0 (cR (u1 4) (u2 4) (rs9 4))), (u1 4, aI G 15 (rl9 4)), (u2 4, aI G 16 (rd9 4)), (u 5, ob 0 (cR (u1 5) (u2 5) (rs9 5))), (u1 5, aI G 15 (rl9 5)), (u2 5, aI G 16 (rd9 5)), (e, aJ G 1 (vp_updL og 0 (Int32.toInt64 (nI (s (37 + j))))))]) ∨ (r = some (.int 1) ∧ ¬ isN x 15 ∧ w1 = [(K, ob 4 (kF p o v t y)), (p, ob 0 (cR q1 q2 ns)), (q1, aI G 15 lk), (q2, aI G 16 ld), (v, ob 1 (vF v1 nx sz)), (v1, aQ G 6 (fun k => some (u k))), (u 0, ob 0 (cR (u1 0) (u2 0) (rs 0))), (u1 0, aI G 15 (rl 0)), (u2 0, aI G 16 (rd 0)), (u 1, ob 0 (cR (u1 1) (u2 1) (rs 1))), (u1 1, aI G 15 (rl 1)), (u2 1, aI G 16 (rd 1)), (u 2, ob 0 (cR (u1 2) (u2 2) (rs 2))), (u1 2, aI G 15 (rl 2)), (u2 2, aI G 16 (rd 2)), (u 3, ob 0 (cR (u1 3) (u2 3) (rs 3))), (u1 3, aI G 15 (rl 3)), (u2 3, aI G 16 (rd 3)), (u 4, ob 0 (cR (u1 4) (u2 4) (rs 4))), (u1 4, aI G 15 (rl 4)), (u2 4, aI G 16 (rd 4)), (u 5, ob 0 (cR (u1 5) (u2 5) (rs 5))), (u1 5, aI G 15 (rl 5)), (u2 5, aI G 16 (rd 5)), (e, aJ G 1 og)]))) := by
  refine ConH.mk (by decide +kernel) (Nat.le_of_ble_eq_true rfl) (fun P C Rr => ?_)
  refine st_aload_n C.cx (dk DL_ladder_0 0 rfl) rfl ?_
  refine st_iconst C.cx (v := 0) (dk DL_ladder_0 1 rfl) (by decide) ?_
  refine st_aload_n C.cx (dk DL_ladder_0 2 rfl) rfl ?_
  refine st_iload_n C.cx (dk DL_ladder_0 3 rfl) rfl ?_
  refine st_iload_n C.cx (dk DL_ladder_0 4 rfl) rfl ?_
  refine st_callX C (k_X5_ladder l G hlt hC hSv) mf_X5_ladder mi_X5_ladder mq_RL_22 (dk DL_ladder_0 5 rfl) [0, 1, 2, 3, 4, 5, 6, 7, 8, 9, 10, 11, 12, 13, 14, 15, 16, 17, 18, 19, 20, 21, 22, 23] (hC_cons rfl (hC_cons rfl (hC_cons rfl (hC_cons rfl (hC_cons rfl (hC_cons rfl (hC_cons rfl (hC_cons rfl (hC_cons rfl (hC_cons rfl (hC_cons rfl (hC_cons rfl (hC_cons rfl (hC_cons rfl (hC_cons rfl (hC_cons rfl (hC_cons rfl (hC_cons rfl (hC_cons rfl (hC_cons rfl (hC_cons rfl (hC_cons rfl (hC_cons rfl (hC_cons rfl (hC_nil))))))))))))))))))))))))) (by decide +kernel) rfl rfl (Nat.le_of_ble_eq_true rfl) rfl rfl ⟨Nat.le_of_ble_eq_true rfl, Nat.le_of_ble_eq_true rfl⟩ ⟨Nat.le_of_ble_eq_true rfl, Nat.le_of_ble_eq_true rfl⟩ (fun E w9 hq9 => ?_) (fun r9 w9 v9 hq9 => ?_)
  · rcases hq9 with ⟨rfl, h_1, rfl⟩
    refine ⟨13, hd_L_ladder_xIO, fun q9 => ?_⟩
    simp only [put_cons, put_nil, List.set_cons_zero, List.set_cons_succ]
    refine st_astore C.cx (dk DL_ladder_0 9 rfl) (by decide) rfl ?_
    refine st_iconst C.cx (v := 1) (dk DL_ladder_0 10 rfl) (by decide) ?_
    exact Rr _ _ _ _ _ _ _ _ (Nat.le_of_ble_eq_true rfl) (Nat.le_of_ble_eq_true rfl) (dk DL_ladder_0 11 rfl) (.inr (.inl ⟨_, rfl, rfl, rfl, rfl⟩)) rfl ⟨rfl, Or.inr (⟨rfl, h_1, rfl⟩)⟩
  · obtain ⟨rfl, j, h_1, h_2, rfl, ns9, lk9, ld9, nx9, sz9, rs9, rl9, rd9, h_3, h_4, rfl⟩ := hq9
    simp only [put_cons, put_nil, List.set_cons_zero, List.set_cons_succ]
    refine st_i2l C.cx (dk DL_ladder_0 6 rfl) ?_
    refine st_last C.cx (dk DL_ladder_0 7 rfl) 24 rfl (by unfold vp_in; decide) ?_
    refine st_goto C.cx (tgt := 17) (dk DL_ladder_0 8 rfl) (by decide) ?_
    refine st_iconst C.cx (v := 0) (dk DL_ladder_0 12 rfl) (by decide) ?_
    exact Rr _ _ _ _ _ _ _ _ (Nat.le_of_ble_eq_true rfl) (Nat.le_of_ble_eq_true rfl) (dk DL_ladder_0 13 rfl) (.inr (.inl ⟨_, rfl, rfl, rfl, rfl⟩)) rfl ⟨rfl, Or.inl ⟨j, h_1, h_2, rfl, ns9, lk9, ld9, nx9, sz9, rs9, rl9, rd9, h_3, h_4, rfl⟩⟩
set_option maxHeartbeats 4000000 in
set_option maxRecDepth 100000 in
theorem kw_fold (l : Launch) (G : wG) (hlt : l.stackTraces = false) {K p q1 q2 o v v1 t y : Nat} {s : mS} {ns lk ld : Nat → Int32} {u u1 u2 : Nat → Nat} {nx sz : Int32} {rs rl rd : Nat → Nat → Int32} {k : Nat} {pp : Nat → mS} {x : Int32} {e : Nat} {og : Nat → Int64} (hC : CRep s ns lk ld) (hSv : SvR k pp nx sz rs rl rd) : ConH l G yL_fold cL_fold 4 (some .int) hh_L_fold 7 1 6 [.ref K, .int x, .ref e] [(K, ob 4 (kF p o v t y)), (p, ob 0 (cR q1 q2 ns)), (q1, aI G 15 lk), (q2, aI G 16 ld), (v, ob 1 (vF v1 nx sz)), (v1, aQ G 6 (fun k => some (u k))), (u 0, ob 0 (cR (u1 0) (u2 0) (rs 0))), (u1 0, aI G 15 (rl 0)), (u2 0, aI G 16 (rd 0)), (u 1, ob 0 (cR (u1 1) (u2 1) (rs 1))), (u1 1, aI G 15 (rl 1)), (u2 1, aI G 16 (rd 1)), (u 2, ob 0 (cR (u1 2) (u2 2) (rs 2))), (u1 2, aI G 15 (rl 2)), (u2 2, aI G 16 (rd 2)), (u 3, ob 0 (cR (u1 3) (u2 3) (rs 3))), (u1 3, aI G 15 (rl 3)), (u2 3, aI G 16 (rd 3)), (u 4, ob 0 (cR (u1 4) (u2 4) (rs 4))), (u1 4, aI G 15 (rl 4)), (u2 4, aI G 16 (rd 4)), (u 5, ob 0 (cR (u1 5) (u2 5) (rs 5))), (u1 5, aI G 15 (rl 5)), (u2 5, aI G 16 (rd 5)), (e, aJ G 1 og)] (fun r w1 w2 => w2 = [] ∧ ((∃ j, 2 ≤ j ∧ j ≤ 8 ∧ x = nI j ∧ r = some (.int 0) ∧ ∃ (ns9 lk9 ld9 : Nat → Int32) (nx9 sz9 : Int32) (rs9 rl9 rd9 : Nat → Nat → Int32), CRep (updS s 0 j) ns9 lk9 ld9 ∧ SvR (svK k) (svP s k pp) nx9 sz9 rs9 rl9 rd9 ∧ w1 = [(K, ob 4 (kF p o v t y)), (p, ob 0 (cR q1 q2 ns9)), (q1, aI G 15 lk9), (q2, aI G 16 ld9), (v, ob 1 (vF v1 nx9 sz9)), (v1, aQ G 6 (fun k => some (u k))), (u 0, ob 0 (cR (u1 0) (u2 0) (rs9 0))), (u1 0, aI G 15 (rl9 0)), (u2 0, aI G 16 (rd9 0)), (u 1, ob 0 (cR (u1 1) (u2 1) (rs9 1))), (u1 1, aI G 15 (rl9 1)), (u2 1, aI G 16 (rd9 1)), (u 2, ob 0 (cR (u1 2) (u2 2) (rs9 2))), (u1 2, aI G 15 (rl9 2)), (u2 2, aI G 16 (rd9 2)), (u 3, ob 0 (cR (u1 3) (u2 3) (rs9 3))), (u1 3, aI G 15 (rl9 3)), (u2 3, aI G 16 (rd9 3)), (u 4, ob 0 (cR (u1 4) (u2 4) (rs9 4))), (u1 4, aI G 15 (rl9 4)), (u2 4, aI G 16 (rd9 4)), (u 5, ob 0 (cR (u1 5) (u2 5) (rs9 5))), (u1 5, aI G 15 (rl9 5)), (u2 5, aI G 16 (rd9 5)), (e, aJ G 1 (vp_updL og 0 (Int32.toInt64 (nI (s 0)))))]) ∨ (r = some (.int 1) ∧ ¬ isR x 2 8 ∧ w1 = [(K, ob 4 (kF p o v t y)), (p, ob 0 (cR q1 q2 ns)), (q1, aI G 15 lk), (q2, aI G 16 ld), (v, ob 1 (vF v1 nx sz)), (v1, aQ G 6 (fun k => some (u k))), (u 0, ob 0 (cR (u1 0) (u2 0) (rs 0))), (u1 0, aI G 15 (rl 0)), (u2 0, aI G 16 (rd 0)), (u 1, ob 0 (cR (u1 1) (u2 1) (rs 1))), (u1 1, aI G 15 (rl 1)), (u2 1, aI G 16 (rd 1)), (u 2, ob 0 (cR (u1 2) (u2 2) (rs 2))), (u1 2, aI G 15 (rl 2)), (u2 2, aI G 16 (rd 2)), (u 3, ob 0 (cR (u1 3) (u2 3) (rs 3))), (u1 3, aI G 15 (rl 3)), (u2 3, aI G 16 (rd 3)), (u 4, ob 0 (cR (u1 4) (u2 4) (rs 4))), (u1 4, aI G 15 (rl 4)), (u2 4, aI G 16 (rd 4)), (u 5, ob 0 (cR (u1 5) (u2 5) (rs 5))), (u1 5, aI G 15 (rl 5)), (u2 5, aI G 16 (rd 5)), (e, aJ G 1 og)]))) := by
  refine ConH.mk (by decide +kernel) (Nat.le_of_ble_eq_true rfl) (fun P C Rr => ?_)
  refine st_aload_n C.cx (dk DL_fold_0 0 rfl) rfl ?_
  refine st_iconst C.cx (v := 0) (dk DL_fold_0 1 rfl) (by decide) ?_
  refine st_aload_n C.cx (dk DL_fold_0 2 rfl) rfl ?_
  refine st_iload_n C.cx (dk DL_fold_0 3 rfl) rfl ?_
  refine st_callX C (k_X5_fold l G hlt hC hSv) mf_X5_fold mi_X5_fold mq_RL_26 (dk DL_fold_0 4 rfl) [0, 1, 2, 3, 4, 5, 6, 7, 8, 9, 10, 11, 12, 13, 14, 15, 16, 17, 18, 19, 20, 21, 22, 23] (hC_cons rfl (hC_cons rfl (hC_cons rfl (hC_cons rfl (hC_cons rfl (hC_cons rfl (hC_cons rfl (hC_cons rfl (hC_cons rfl (hC_cons rfl (hC_cons rfl (hC_cons rfl (hC_cons rfl (hC_cons rfl (hC_cons rfl (hC_cons rfl (hC_cons rfl (hC_cons rfl (hC_cons rfl (hC_cons rfl (hC_cons rfl (hC_cons rfl (hC_cons rfl (hC_cons rfl (hC_nil))))))))))))))))))))))))) (by decide +kernel) rfl rfl (Nat.le_of_ble_eq_true rfl) rfl rfl ⟨Nat.le_of_ble_eq_true rfl, Nat.le_of_ble_eq_true rfl⟩ ⟨Nat.le_of_ble_eq_true rfl, Nat.le_of_ble_eq_true rfl⟩ (fun E w9 hq9 => ?_) (fun r9 w9 v9 hq9 => ?_)
  · rcases hq9 with ⟨rfl, h_1, rfl⟩
    refine ⟨12, hd_L_fold_xIA, fun q9 => ?_⟩
    simp only [put_cons, put_nil, List.set_cons_zero, List.set_cons_succ]
    refine st_astore_n C.cx (dk DL_fold_0 8 rfl) (by decide) rfl ?_
    refine st_iconst C.cx (v := 1) (dk DL_fold_0 9 rfl) (by decide) ?_
    exact Rr _ _ _ _ _ _ _ _ (Nat.le_of_ble_eq_true rfl) (Nat.le_of_ble_eq_true rfl) (dk DL_fold_0 10 rfl) (.inr (.inl ⟨_, rfl, rfl, rfl, rfl⟩)) rfl ⟨rfl, Or.inr (⟨rfl, h_1, rfl⟩)⟩
  · obtain ⟨rfl, j, h_1, h_2, h_3, rfl, ns9, lk9, ld9, nx9, sz9, rs9, rl9, rd9, h_4, h_5, rfl⟩ := hq9
    simp only [put_cons, put_nil, List.set_cons_zero, List.set_cons_succ]
    refine st_i2l C.cx (dk DL_fold_0 5 rfl) ?_
    refine st_last C.cx (dk DL_fold_0 6 rfl) 24 rfl (by unfold vp_in; decide) ?_
    refine st_goto C.cx (tgt := 15) (dk DL_fold_0 7 rfl) (by decide) ?_
    refine st_iconst C.cx (v := 0) (dk DL_fold_0 11 rfl) (by decide) ?_
    exact Rr _ _ _ _ _ _ _ _ (Nat.le_of_ble_eq_true rfl) (Nat.le_of_ble_eq_true rfl) (dk DL_fold_0 12 rfl) (.inr (.inl ⟨_, rfl, rfl, rfl, rfl⟩)) rfl ⟨rfl, Or.inl ⟨j, h_1, h_2, h_3, rfl, ns9, lk9, ld9, nx9, sz9, rs9, rl9, rd9, h_4, h_5, rfl⟩⟩
set_option maxHeartbeats 4000000 in
set_option maxRecDepth 100000 in
theorem kw_stand (l : Launch) (G : wG) (hlt : l.stackTraces = false) {K p q1 q2 o v v1 t y : Nat} {s : mS} {ns lk ld : Nat → Int32} {u u1 u2 : Nat → Nat} {nx sz : Int32} {rs rl rd : Nat → Nat → Int32} {k : Nat} {pp : Nat → mS} {x : Int32} {e : Nat} {og : Nat → Int64} (hC : CRep s ns lk ld) (hSv : SvR k pp nx sz rs rl rd) : ConH l G yL_stand cL_stand 4 (some .int) hh_L_stand 7 1 6 [.ref K, .int x, .ref e] [(K, ob 4 (kF p o v t y)), (p, ob 0 (cR q1 q2 ns)), (q1, aI G 15 lk), (q2, aI G 16 ld), (v, ob 1 (vF v1 nx sz)), (v1, aQ G 6 (fun k => some (u k))), (u 0, ob 0 (cR (u1 0) (u2 0) (rs 0))), (u1 0, aI G 15 (rl 0)), (u2 0, aI G 16 (rd 0)), (u 1, ob 0 (cR (u1 1) (u2 1) (rs 1))), (u1 1, aI G 15 (rl 1)), (u2 1, aI G 16 (rd 1)), (u 2, ob 0 (cR (u1 2) (u2 2) (rs 2))), (u1 2, aI G 15 (rl 2)), (u2 2, aI G 16 (rd 2)), (u 3, ob 0 (cR (u1 3) (u2 3) (rs 3))), (u1 3, aI G 15 (rl 3)), (u2 3, aI G 16 (rd 3)), (u 4, ob 0 (cR (u1 4) (u2 4) (rs 4))), (u1 4, aI G 15 (rl 4)), (u2 4, aI G 16 (rd 4)), (u 5, ob 0 (cR (u1 5) (u2 5) (rs 5))), (u1 5, aI G 15 (rl 5)), (u2 5, aI G 16 (rd 5)), (e, aJ G 1 og)] (fun r w1 w2 => w2 = [] ∧ ((∃ j, j ≤ 15 ∧ x = nI j ∧ r = some (.int 0) ∧ ∃ (ns9 lk9 ld9 : Nat → Int32) (nx9 sz9 : Int32) (rs9 rl9 rd9 : Nat → Nat → Int32), CRep (updS s 1 j) ns9 lk9 ld9 ∧ SvR (svK k) (svP s k pp) nx9 sz9 rs9 rl9 rd9 ∧ w1 = [(K, ob 4 (kF p o v t y)), (p, ob 0 (cR q1 q2 ns9)), (q1, aI G 15 lk9), (q2, aI G 16 ld9), (v, ob 1 (vF v1 nx9 sz9)), (v1, aQ G 6 (fun k => some (u k))), (u 0, ob 0 (cR (u1 0) (u2 0) (rs9 0))), (u1 0, aI G 15 (rl9 0)), (u2 0, aI G 16 (rd9 0)), (u 1, ob 0 (cR (u1 1) (u2 1) (rs9 1))), (u1 1, aI G 15 (rl9 1)), (u2 1, aI G 16 (rd9 1)), (u 2, ob 0 (cR (u1 2) (u2 2) (rs9 2))), (u1 2, aI G 15 (rl9 2)), (u2 2, aI G 16 (rd9 2)), (u 3, ob 0 (cR (u1 3) (u2 3) (rs9 3))), (u1 3, aI G 15 (rl9 3)), (u2 3, aI G 16 (rd9 3)), (u 4, ob 0 (cR (u1 4) (u2 4) (rs9 4))), (u1 4, aI G 15 (rl9 4)), (u2 4, aI G 16 (rd9 4)), (u 5, ob 0 (cR (u1 5) (u2 5) (rs9 5))), (u1 5, aI G 15 (rl9 5)), (u2 5, aI G 16 (rd9 5)), (e, aJ G 1 (vp_updL og 0 (Int32.toInt64 (nI (s 1)))))]) ∨ (r = some (.int 1) ∧ ¬ isN x 15 ∧ w1 = [(K, ob 4 (kF p o v t y)), (p, ob 0 (cR q1 q2 ns)), (q1, aI G 15 lk), (q2, aI G 16 ld), (v, ob 1 (vF v1 nx sz)), (v1, aQ G 6 (fun k => some (u k))), (u 0, ob 0 (cR (u1 0) (u2 0) (rs 0))), (u1 0, aI G 15 (rl 0)), (u2 0, aI G 16 (rd 0)), (u 1, ob 0 (cR (u1 1) (u2 1) (rs 1))), (u1 1, aI G 15 (rl 1)), (u2 1, aI G 16 (rd 1)), (u 2, ob 0 (cR (u1 2) (u2 2) (rs 2))), (u1 2, aI G 15 (rl 2)), (u2 2, aI G 16 (rd 2)), (u 3, ob 0 (cR (u1 3) (u2 3) (rs 3))), (u1 3, aI G 15 (rl 3)), (u2 3, aI G 16 (rd 3)), (u 4, ob 0 (cR (u1 4) (u2 4) (rs 4))), (u1 4, aI G 15 (rl 4)), (u2 4, aI G 16 (rd 4)), (u 5, ob 0 (cR (u1 5) (u2 5) (rs 5))), (u1 5, aI G 15 (rl 5)), (u2 5, aI G 16 (rd 5)), (e, aJ G 1 og)]))) := by
  refine ConH.mk (by decide +kernel) (Nat.le_of_ble_eq_true rfl) (fun P C Rr => ?_)
  refine st_aload_n C.cx (dk DL_stand_0 0 rfl) rfl ?_
  refine st_iconst C.cx (v := 0) (dk DL_stand_0 1 rfl) (by decide) ?_
  refine st_aload_n C.cx (dk DL_stand_0 2 rfl) rfl ?_
  refine st_iload_n C.cx (dk DL_stand_0 3 rfl) rfl ?_
  refine st_callX C (k_X5_stand l G hlt hC hSv) mf_X5_stand mi_X5_stand mq_RL_30 (dk DL_stand_0 4 rfl) [0, 1, 2, 3, 4, 5, 6, 7, 8, 9, 10, 11, 12, 13, 14, 15, 16, 17, 18, 19, 20, 21, 22, 23] (hC_cons rfl (hC_cons rfl (hC_cons rfl (hC_cons rfl (hC_cons rfl (hC_cons rfl (hC_cons rfl (hC_cons rfl (hC_cons rfl (hC_cons rfl (hC_cons rfl (hC_cons rfl (hC_cons rfl (hC_cons rfl (hC_cons rfl (hC_cons rfl (hC_cons rfl (hC_cons rfl (hC_cons rfl (hC_cons rfl (hC_cons rfl (hC_cons rfl (hC_cons rfl (hC_cons rfl (hC_nil))))))))))))))))))))))))) (by decide +kernel) rfl rfl (Nat.le_of_ble_eq_true rfl) rfl rfl ⟨Nat.le_of_ble_eq_true rfl, Nat.le_of_ble_eq_true rfl⟩ ⟨Nat.le_of_ble_eq_true rfl, Nat.le_of_ble_eq_true rfl⟩ (fun E w9 hq9 => ?_) (fun r9 w9 v9 hq9 => ?_)
  · rcases hq9 with ⟨rfl, h_1, rfl⟩
    refine ⟨12, hd_L_stand_xIO, fun q9 => ?_⟩
    simp only [put_cons, put_nil, List.set_cons_zero, List.set_cons_succ]
    refine st_astore_n C.cx (dk DL_stand_0 8 rfl) (by decide) rfl ?_
    refine st_iconst C.cx (v := 1) (dk DL_stand_0 9 rfl) (by decide) ?_
    exact Rr _ _ _ _ _ _ _ _ (Nat.le_of_ble_eq_true rfl) (Nat.le_of_ble_eq_true rfl) (dk DL_stand_0 10 rfl) (.inr (.inl ⟨_, rfl, rfl, rfl, rfl⟩)) rfl ⟨rfl, Or.inr (⟨rfl, h_1, rfl⟩)⟩
  · obtain ⟨rfl, j, h_1, h_2, rfl, ns9, lk9, ld9, nx9, sz9, rs9, rl9, rd9, h_3, h_4, rfl⟩ := hq9
    simp only [put_cons, put_nil, List.set_cons_zero, List.set_cons_succ]
    refine st_i2l C.cx (dk DL_stand_0 5 rfl) ?_
    refine st_last C.cx (dk DL_stand_0 6 rfl) 24 rfl (by unfold vp_in; decide) ?_
    refine st_goto C.cx (tgt := 15) (dk DL_stand_0 7 rfl) (by decide) ?_
    refine st_iconst C.cx (v := 0) (dk DL_stand_0 11 rfl) (by decide) ?_
    exact Rr _ _ _ _ _ _ _ _ (Nat.le_of_ble_eq_true rfl) (Nat.le_of_ble_eq_true rfl) (dk DL_stand_0 12 rfl) (.inr (.inl ⟨_, rfl, rfl, rfl, rfl⟩)) rfl ⟨rfl, Or.inl ⟨j, h_1, h_2, rfl, ns9, lk9, ld9, nx9, sz9, rs9, rl9, rd9, h_3, h_4, rfl⟩⟩
set_option maxHeartbeats 4000000 in
set_option maxRecDepth 100000 in
theorem kw_step (l : Launch) (G : wG) (hlt : l.stackTraces = false) {K p q1 q2 o v v1 t y : Nat} {s : mS} {ns lk ld : Nat → Int32} {u u1 u2 : Nat → Nat} {nx sz : Int32} {rs rl rd : Nat → Nat → Int32} {k : Nat} {pp : Nat → mS} {x : Int32} {e : Nat} {og : Nat → Int64} (hC : CRep s ns lk ld) (hSv : SvR k pp nx sz rs rl rd) : ConH l G yL_step cL_step 4 (some .int) hh_L_step 7 1 6 [.ref K, .int x, .ref e] [(K, ob 4 (kF p o v t y)), (p, ob 0 (cR q1 q2 ns)), (q1, aI G 15 lk), (q2, aI G 16 ld), (v, ob 1 (vF v1 nx sz)), (v1, aQ G 6 (fun k => some (u k))), (u 0, ob 0 (cR (u1 0) (u2 0) (rs 0))), (u1 0, aI G 15 (rl 0)), (u2 0, aI G 16 (rd 0)), (u 1, ob 0 (cR (u1 1) (u2 1) (rs 1))), (u1 1, aI G 15 (rl 1)), (u2 1, aI G 16 (rd 1)), (u 2, ob 0 (cR (u1 2) (u2 2) (rs 2))), (u1 2, aI G 15 (rl 2)), (u2 2, aI G 16 (rd 2)), (u 3, ob 0 (cR (u1 3) (u2 3) (rs 3))), (u1 3, aI G 15 (rl 3)), (u2 3, aI G 16 (rd 3)), (u 4, ob 0 (cR (u1 4) (u2 4) (rs 4))), (u1 4, aI G 15 (rl 4)), (u2 4, aI G 16 (rd 4)), (u 5, ob 0 (cR (u1 5) (u2 5) (rs 5))), (u1 5, aI G 15 (rl 5)), (u2 5, aI G 16 (rd 5)), (e, aJ G 1 og)] (fun r w1 w2 => w2 = [] ∧ ((∃ st, st ≤ 4 ∧ x = nI st ∧ refN s st = 0 ∧ r = some (.int 0) ∧ ∃ (ns9 lk9 ld9 : Nat → Int32) (nx9 sz9 : Int32) (rs9 rl9 rd9 : Nat → Nat → Int32), CRep (goN s st) ns9 lk9 ld9 ∧ SvR (svK k) (svP s k pp) nx9 sz9 rs9 rl9 rd9 ∧ w1 = [(K, ob 4 (kF p o v t y)), (p, ob 0 (cR q1 q2 ns9)), (q1, aI G 15 lk9), (q2, aI G 16 ld9), (v, ob 1 (vF v1 nx9 sz9)), (v1, aQ G 6 (fun k => some (u k))), (u 0, ob 0 (cR (u1 0) (u2 0) (rs9 0))), (u1 0, aI G 15 (rl9 0)), (u2 0, aI G 16 (rd9 0)), (u 1, ob 0 (cR (u1 1) (u2 1) (rs9 1))), (u1 1, aI G 15 (rl9 1)), (u2 1, aI G 16 (rd9 1)), (u 2, ob 0 (cR (u1 2) (u2 2) (rs9 2))), (u1 2, aI G 15 (rl9 2)), (u2 2, aI G 16 (rd9 2)), (u 3, ob 0 (cR (u1 3) (u2 3) (rs9 3))), (u1 3, aI G 15 (rl9 3)), (u2 3, aI G 16 (rd9 3)), (u 4, ob 0 (cR (u1 4) (u2 4) (rs9 4))), (u1 4, aI G 15 (rl9 4)), (u2 4, aI G 16 (rd9 4)), (u 5, ob 0 (cR (u1 5) (u2 5) (rs9 5))), (u1 5, aI G 15 (rl9 5)), (u2 5, aI G 16 (rd9 5)), (e, aJ G 1 (vp_updL og 0 (Int32.toInt64 (nI (goN s st 1)))))]) ∨ (r = some (.int 1) ∧ ¬ isN x 4 ∧ w1 = [(K, ob 4 (kF p o v t y)), (p, ob 0 (cR q1 q2 ns)), (q1, aI G 15 lk), (q2, aI G 16 ld), (v, ob 1 (vF v1 nx sz)), (v1, aQ G 6 (fun k => some (u k))), (u 0, ob 0 (cR (u1 0) (u2 0) (rs 0))), (u1 0, aI G 15 (rl 0)), (u2 0, aI G 16 (rd 0)), (u 1, ob 0 (cR (u1 1) (u2 1) (rs 1))), (u1 1, aI G 15 (rl 1)), (u2 1, aI G 16 (rd 1)), (u 2, ob 0 (cR (u1 2) (u2 2) (rs 2))), (u1 2, aI G 15 (rl 2)), (u2 2, aI G 16 (rd 2)), (u 3, ob 0 (cR (u1 3) (u2 3) (rs 3))), (u1 3, aI G 15 (rl 3)), (u2 3, aI G 16 (rd 3)), (u 4, ob 0 (cR (u1 4) (u2 4) (rs 4))), (u1 4, aI G 15 (rl 4)), (u2 4, aI G 16 (rd 4)), (u 5, ob 0 (cR (u1 5) (u2 5) (rs 5))), (u1 5, aI G 15 (rl 5)), (u2 5, aI G 16 (rd 5)), (e, aJ G 1 og)]) ∨ (r = some (.int 2) ∧ ∃ st, st ≤ 4 ∧ x = nI st ∧ 0 < refN s st ∧ w1 = [(K, ob 4 (kF p o v t y)), (p, ob 0 (cR q1 q2 ns)), (q1, aI G 15 lk), (q2, aI G 16 ld), (v, ob 1 (vF v1 nx sz)), (v1, aQ G 6 (fun k => some (u k))), (u 0, ob 0 (cR (u1 0) (u2 0) (rs 0))), (u1 0, aI G 15 (rl 0)), (u2 0, aI G 16 (rd 0)), (u 1, ob 0 (cR (u1 1) (u2 1) (rs 1))), (u1 1, aI G 15 (rl 1)), (u2 1, aI G 16 (rd 1)), (u 2, ob 0 (cR (u1 2) (u2 2) (rs 2))), (u1 2, aI G 15 (rl 2)), (u2 2, aI G 16 (rd 2)), (u 3, ob 0 (cR (u1 3) (u2 3) (rs 3))), (u1 3, aI G 15 (rl 3)), (u2 3, aI G 16 (rd 3)), (u 4, ob 0 (cR (u1 4) (u2 4) (rs 4))), (u1 4, aI G 15 (rl 4)), (u2 4, aI G 16 (rd 4)), (u 5, ob 0 (cR (u1 5) (u2 5) (rs 5))), (u1 5, aI G 15 (rl 5)), (u2 5, aI G 16 (rd 5)), (e, aJ G 1 og)]))) := by
  refine ConH.mk (by decide +kernel) (Nat.le_of_ble_eq_true rfl) (fun P C Rr => ?_)
  refine st_aload_n C.cx (dk DL_step_0 0 rfl) rfl ?_
  refine st_iconst C.cx (v := 0) (dk DL_step_0 1 rfl) (by decide) ?_
  refine st_aload_n C.cx (dk DL_step_0 2 rfl) rfl ?_
  refine st_iload_n C.cx (dk DL_step_0 3 rfl) rfl ?_
  refine st_callX C (k_X5_step l G hlt hC hSv) mf_X5_step mi_X5_step mq_RL_33 (dk DL_step_0 4 rfl) [0, 1, 2, 3, 4, 5, 6, 7, 8, 9, 10, 11, 12, 13, 14, 15, 16, 17, 18, 19, 20, 21, 22, 23] (hC_cons rfl (hC_cons rfl (hC_cons rfl (hC_cons rfl (hC_cons rfl (hC_cons rfl (hC_cons rfl (hC_cons rfl (hC_cons rfl (hC_cons rfl (hC_cons rfl (hC_cons rfl (hC_cons rfl (hC_cons rfl (hC_cons rfl (hC_cons rfl (hC_cons rfl (hC_cons rfl (hC_cons rfl (hC_cons rfl (hC_cons rfl (hC_cons rfl (hC_cons rfl (hC_cons rfl (hC_nil))))))))))))))))))))))))) (by decide +kernel) rfl rfl (Nat.le_of_ble_eq_true rfl) rfl rfl ⟨Nat.le_of_ble_eq_true rfl, Nat.le_of_ble_eq_true rfl⟩ ⟨Nat.le_of_ble_eq_true rfl, Nat.le_of_ble_eq_true rfl⟩ (fun E w9 hq9 => ?_) (fun r9 w9 v9 hq9 => ?_)
  · rcases hq9 with ⟨rfl, h_1, rfl⟩ | ⟨rfl, st, h_1, h_2, h_3, rfl⟩
    · refine ⟨12, hd_L_step_xIA, fun q9 => ?_⟩
      simp only [put_cons, put_nil, List.set_cons_zero, List.set_cons_succ]
      refine st_astore_n C.cx (dk DL_step_0 8 rfl) (by decide) rfl ?_
      refine st_iconst C.cx (v := 1) (dk DL_step_0 9 rfl) (by decide) ?_
      exact Rr _ _ _ _ _ _ _ _ (Nat.le_of_ble_eq_true rfl) (Nat.le_of_ble_eq_true rfl) (dk DL_step_0 10 rfl) (.inr (.inl ⟨_, rfl, rfl, rfl, rfl⟩)) rfl ⟨rfl, Or.inr (Or.inl ⟨rfl, h_1, rfl⟩)⟩
    · refine ⟨15, hd_L_step_xIS, fun q9 => ?_⟩
      simp only [put_cons, put_nil, List.set_cons_zero, List.set_cons_succ]
      refine st_astore_n C.cx (dk DL_step_0 11 rfl) (by decide) rfl ?_
      refine st_iconst C.cx (v := 2) (dk DL_step_0 12 rfl) (by decide) ?_
      exact Rr _ _ _ _ _ _ _ _ (Nat.le_of_ble_eq_true rfl) (Nat.le_of_ble_eq_true rfl) (dk DL_step_0 13 rfl) (.inr (.inl ⟨_, rfl, rfl, rfl, rfl⟩)) rfl ⟨rfl, Or.inr (Or.inr (⟨rfl, st, h_1, h_2, h_3, rfl⟩))⟩
  · obtain ⟨rfl, st, h_1, h_2, h_3, rfl, ns9, lk9, ld9, nx9, sz9, rs9, rl9, rd9, h_4, h_5, rfl⟩ := hq9
    simp only [put_cons, put_nil, List.set_cons_zero, List.set_cons_succ]
    refine st_i2l C.cx (dk DL_step_0 5 rfl) ?_
    refine st_last C.cx (dk DL_step_0 6 rfl) 24 rfl (by unfold vp_in; decide) ?_
    refine st_goto C.cx (tgt := 18) (dk DL_step_0 7 rfl) (by decide) ?_
    refine st_iconst C.cx (v := 0) (dk DL_step_0 14 rfl) (by decide) ?_
    exact Rr _ _ _ _ _ _ _ _ (Nat.le_of_ble_eq_true rfl) (Nat.le_of_ble_eq_true rfl) (dk DL_step_0 15 rfl) (.inr (.inl ⟨_, rfl, rfl, rfl, rfl⟩)) rfl ⟨rfl, Or.inl ⟨st, h_1, h_2, h_3, rfl, ns9, lk9, ld9, nx9, sz9, rs9, rl9, rd9, h_4, h_5, rfl⟩⟩
set_option maxHeartbeats 4000000 in
set_option maxRecDepth 100000 in
theorem kw_walk (l : Launch) (G : wG) (hlt : l.stackTraces = false) {K p q1 q2 o v v1 t t1 t2 t3 t4 y : Nat} {s : mS} {ns lk ld : Nat → Int32} {u u1 u2 : Nat → Nat} {nx sz : Int32} {rs rl rd : Nat → Nat → Int32} {k : Nat} {pp : Nat → mS} {zz rc : Int32} {en : Nat → Int32} {sn : Nat → Int64} {nd ln : Nat → Int32} {x : Int32} {e : Nat} {og : Nat → Int64} (hC : CRep s ns lk ld) (hSv : SvR k pp nx sz rs rl rd) : ConH l G yL_walk cL_walk 4 (some .int) hh_L_walk 10 1 6 [.ref K, .int x, .ref e] [(K, ob 4 (kF p o v t y)), (p, ob 0 (cR q1 q2 ns)), (q1, aI G 15 lk), (q2, aI G 16 ld), (v, ob 1 (vF v1 nx sz)), (v1, aQ G 6 (fun k => some (u k))), (u 0, ob 0 (cR (u1 0) (u2 0) (rs 0))), (u1 0, aI G 15 (rl 0)), (u2 0, aI G 16 (rd 0)), (u 1, ob 0 (cR (u1 1) (u2 1) (rs 1))), (u1 1, aI G 15 (rl 1)), (u2 1, aI G 16 (rd 1)), (u 2, ob 0 (cR (u1 2) (u2 2) (rs 2))), (u1 2, aI G 15 (rl 2)), (u2 2, aI G 16 (rd 2)), (u 3, ob 0 (cR (u1 3) (u2 3) (rs 3))), (u1 3, aI G 15 (rl 3)), (u2 3, aI G 16 (rd 3)), (u 4, ob 0 (cR (u1 4) (u2 4) (rs 4))), (u1 4, aI G 15 (rl 4)), (u2 4, aI G 16 (rd 4)), (u 5, ob 0 (cR (u1 5) (u2 5) (rs 5))), (u1 5, aI G 15 (rl 5)), (u2 5, aI G 16 (rd 5)), (t, ob 2 (sF t1 t2 t3 t4 zz rc)), (t1, aI G 4624 en), (t2, aJ G 256 sn), (t3, aI G 16 nd), (t4, aI G 16 ln), (e, aJ G 1 og)] (fun r w1 w2 => w2 = [] ∧ ((∃ j q, j ≤ 15 ∧ x = nI j ∧ fi (fS s) j = some q ∧ r = some (.int 0) ∧ ∃ (ns9 lk9 ld9 : Nat → Int32) (nx9 sz9 : Int32) (rs9 rl9 rd9 : Nat → Nat → Int32) (zz9 rc9 : Int32) (en9 : Nat → Int32) (sn9 : Nat → Int64) (nd9 ln9 : Nat → Int32), CRep (wkS (fS s) j s (dst (fS s) q)) ns9 lk9 ld9 ∧ SvR (svK k) (svP s k pp) nx9 sz9 rs9 rl9 rd9 ∧ w1 = [(K, ob 4 (kF p o v t y)), (p, ob 0 (cR q1 q2 ns9)), (q1, aI G 15 lk9), (q2, aI G 16 ld9), (v, ob 1 (vF v1 nx9 sz9)), (v1, aQ G 6 (fun k => some (u k))), (u 0, ob 0 (cR (u1 0) (u2 0) (rs9 0))), (u1 0, aI G 15 (rl9 0)), (u2 0, aI G 16 (rd9 0)), (u 1, ob 0 (cR (u1 1) (u2 1) (rs9 1))), (u1 1, aI G 15 (rl9 1)), (u2 1, aI G 16 (rd9 1)), (u 2, ob 0 (cR (u1 2) (u2 2) (rs9 2))), (u1 2, aI G 15 (rl9 2)), (u2 2, aI G 16 (rd9 2)), (u 3, ob 0 (cR (u1 3) (u2 3) (rs9 3))), (u1 3, aI G 15 (rl9 3)), (u2 3, aI G 16 (rd9 3)), (u 4, ob 0 (cR (u1 4) (u2 4) (rs9 4))), (u1 4, aI G 15 (rl9 4)), (u2 4, aI G 16 (rd9 4)), (u 5, ob 0 (cR (u1 5) (u2 5) (rs9 5))), (u1 5, aI G 15 (rl9 5)), (u2 5, aI G 16 (rd9 5)), (t, ob 2 (sF t1 t2 t3 t4 zz9 rc9)), (t1, aI G 4624 en9), (t2, aJ G 256 sn9), (t3, aI G 16 nd9), (t4, aI G 16 ln9), (e, aJ G 1 (vp_updL og 0 (Int32.toInt64 (nI (dst (fS s) q)))))]) ∨ (r = some (.int 1) ∧ ¬ isN x 15 ∧ w1 = [(K, ob 4 (kF p o v t y)), (p, ob 0 (cR q1 q2 ns)), (q1, aI G 15 lk), (q2, aI G 16 ld), (v, ob 1 (vF v1 nx sz)), (v1, aQ G 6 (fun k => some (u k))), (u 0, ob 0 (cR (u1 0) (u2 0) (rs 0))), (u1 0, aI G 15 (rl 0)), (u2 0, aI G 16 (rd 0)), (u 1, ob 0 (cR (u1 1) (u2 1) (rs 1))), (u1 1, aI G 15 (rl 1)), (u2 1, aI G 16 (rd 1)), (u 2, ob 0 (cR (u1 2) (u2 2) (rs 2))), (u1 2, aI G 15 (rl 2)), (u2 2, aI G 16 (rd 2)), (u 3, ob 0 (cR (u1 3) (u2 3) (rs 3))), (u1 3, aI G 15 (rl 3)), (u2 3, aI G 16 (rd 3)), (u 4, ob 0 (cR (u1 4) (u2 4) (rs 4))), (u1 4, aI G 15 (rl 4)), (u2 4, aI G 16 (rd 4)), (u 5, ob 0 (cR (u1 5) (u2 5) (rs 5))), (u1 5, aI G 15 (rl 5)), (u2 5, aI G 16 (rd 5)), (t, ob 2 (sF t1 t2 t3 t4 zz rc)), (t1, aI G 4624 en), (t2, aJ G 256 sn), (t3, aI G 16 nd), (t4, aI G 16 ln), (e, aJ G 1 og)]) ∨ (r = some (.int 2) ∧ ∃ j, j ≤ 15 ∧ x = nI j ∧ fi (fS s) j = none ∧ ∃ (zz9 rc9 : Int32) (en9 : Nat → Int32) (sn9 : Nat → Int64) (nd9 ln9 : Nat → Int32), w1 = [(K, ob 4 (kF p o v t y)), (p, ob 0 (cR q1 q2 ns)), (q1, aI G 15 lk), (q2, aI G 16 ld), (v, ob 1 (vF v1 nx sz)), (v1, aQ G 6 (fun k => some (u k))), (u 0, ob 0 (cR (u1 0) (u2 0) (rs 0))), (u1 0, aI G 15 (rl 0)), (u2 0, aI G 16 (rd 0)), (u 1, ob 0 (cR (u1 1) (u2 1) (rs 1))), (u1 1, aI G 15 (rl 1)), (u2 1, aI G 16 (rd 1)), (u 2, ob 0 (cR (u1 2) (u2 2) (rs 2))), (u1 2, aI G 15 (rl 2)), (u2 2, aI G 16 (rd 2)), (u 3, ob 0 (cR (u1 3) (u2 3) (rs 3))), (u1 3, aI G 15 (rl 3)), (u2 3, aI G 16 (rd 3)), (u 4, ob 0 (cR (u1 4) (u2 4) (rs 4))), (u1 4, aI G 15 (rl 4)), (u2 4, aI G 16 (rd 4)), (u 5, ob 0 (cR (u1 5) (u2 5) (rs 5))), (u1 5, aI G 15 (rl 5)), (u2 5, aI G 16 (rd 5)), (t, ob 2 (sF t1 t2 t3 t4 zz9 rc9)), (t1, aI G 4624 en9), (t2, aJ G 256 sn9), (t3, aI G 16 nd9), (t4, aI G 16 ln9), (e, aJ G 1 og)]))) := by
  refine ConH.mk (by decide +kernel) (Nat.le_of_ble_eq_true rfl) (fun P C Rr => ?_)
  refine st_aload_n C.cx (dk DL_walk_0 0 rfl) rfl ?_
  refine st_iconst C.cx (v := 0) (dk DL_walk_0 1 rfl) (by decide) ?_
  refine st_aload_n C.cx (dk DL_walk_0 2 rfl) rfl ?_
  refine st_iload_n C.cx (dk DL_walk_0 3 rfl) rfl ?_
  refine st_callX C (k_X5_walk l G hlt hC hSv) mf_X5_walk mi_X5_walk mq_RL_36 (dk DL_walk_0 4 rfl) [0, 1, 2, 3, 4, 5, 6, 7, 8, 9, 10, 11, 12, 13, 14, 15, 16, 17, 18, 19, 20, 21, 22, 23, 24, 25, 26, 27, 28] (hC_cons rfl (hC_cons rfl (hC_cons rfl (hC_cons rfl (hC_cons rfl (hC_cons rfl (hC_cons rfl (hC_cons rfl (hC_cons rfl (hC_cons rfl (hC_cons rfl (hC_cons rfl (hC_cons rfl (hC_cons rfl (hC_cons rfl (hC_cons rfl (hC_cons rfl (hC_cons rfl (hC_cons rfl (hC_cons rfl (hC_cons rfl (hC_cons rfl (hC_cons rfl (hC_cons rfl (hC_cons rfl (hC_cons rfl (hC_cons rfl (hC_cons rfl (hC_cons rfl (hC_nil)))))))))))))))))))))))))))))) (by decide +kernel) rfl rfl (Nat.le_of_ble_eq_true rfl) rfl rfl ⟨Nat.le_of_ble_eq_true rfl, Nat.le_of_ble_eq_true rfl⟩ ⟨Nat.le_of_ble_eq_true rfl, Nat.le_of_ble_eq_true rfl⟩ (fun E w9 hq9 => ?_) (fun r9 w9 v9 hq9 => ?_)
  · rcases hq9 with ⟨rfl, h_1, rfl⟩ | ⟨rfl, j, h_1, h_2, h_3, zz9, rc9, en9, sn9, nd9, ln9, rfl⟩
    · refine ⟨12, hd_L_walk_xIO, fun q9 => ?_⟩
      simp only [put_cons, put_nil, List.set_cons_zero, List.set_cons_succ]
      refine st_astore_n C.cx (dk DL_walk_0 8 rfl) (by decide) rfl ?_
      refine st_iconst C.cx (v := 1) (dk DL_walk_0 9 rfl) (by decide) ?_
      exact Rr _ _ _ _ _ _ _ _ (Nat.le_of_ble_eq_true rfl) (Nat.le_of_ble_eq_true rfl) (dk DL_walk_0 10 rfl) (.inr (.inl ⟨_, rfl, rfl, rfl, rfl⟩)) rfl ⟨rfl, Or.inr (Or.inl ⟨rfl, h_1, rfl⟩)⟩
    · refine ⟨15, hd_L_walk_xIS, fun q9 => ?_⟩
      simp only [put_cons, put_nil, List.set_cons_zero, List.set_cons_succ]
      refine st_astore_n C.cx (dk DL_walk_0 11 rfl) (by decide) rfl ?_
      refine st_iconst C.cx (v := 2) (dk DL_walk_0 12 rfl) (by decide) ?_
      exact Rr _ _ _ _ _ _ _ _ (Nat.le_of_ble_eq_true rfl) (Nat.le_of_ble_eq_true rfl) (dk DL_walk_0 13 rfl) (.inr (.inl ⟨_, rfl, rfl, rfl, rfl⟩)) rfl ⟨rfl, Or.inr (Or.inr (⟨rfl, j, h_1, h_2, h_3, zz9, rc9, en9, sn9, nd9, ln9, rfl⟩))⟩
  · obtain ⟨rfl, j, q, h_1, h_2, h_3, rfl, ns9, lk9, ld9, nx9, sz9, rs9, rl9, rd9, zz9, rc9, en9, sn9, nd9, ln9, h_4, h_5, rfl⟩ := hq9
    simp only [put_cons, put_nil, List.set_cons_zero, List.set_cons_succ]
    refine st_i2l C.cx (dk DL_walk_0 5 rfl) ?_
    refine st_last C.cx (dk DL_walk_0 6 rfl) 29 rfl (by unfold vp_in; decide) ?_
    refine st_goto C.cx (tgt := 18) (dk DL_walk_0 7 rfl) (by decide) ?_
    refine st_iconst C.cx (v := 0) (dk DL_walk_0 14 rfl) (by decide) ?_
    exact Rr _ _ _ _ _ _ _ _ (Nat.le_of_ble_eq_true rfl) (Nat.le_of_ble_eq_true rfl) (dk DL_walk_0 15 rfl) (.inr (.inl ⟨_, rfl, rfl, rfl, rfl⟩)) rfl ⟨rfl, Or.inl ⟨j, q, h_1, h_2, h_3, rfl, ns9, lk9, ld9, nx9, sz9, rs9, rl9, rd9, zz9, rc9, en9, sn9, nd9, ln9, h_4, h_5, rfl⟩⟩
set_option maxHeartbeats 4000000 in
set_option maxRecDepth 100000 in
theorem kw_append (l : Launch) (G : wG) (hlt : l.stackTraces = false) {K p o v t y y1 : Nat} {tl ce la : Int32} {cd : Nat → Int32} {n : Nat} {x : Int32} {e : Nat} {og : Nat → Int64} (htl : tl = nI n) (hn : n ≤ 60) : ConH l G yL_append cL_append 4 (some .int) hh_L_append 7 1 6 [.ref K, .int x, .ref e] [(K, ob 4 (kF p o v t y)), (y, ob 3 (tF y1 tl ce la)), (y1, aI G 60 cd), (e, aJ G 1 og)] (fun r w1 w2 => w2 = [] ∧ ((∃ j, 33 ≤ j ∧ j ≤ 126 ∧ x = nI j ∧ n < 60 ∧ r = some (.int 0) ∧ w1 = [(K, ob 4 (kF p o v t y)), (y, ob 3 (tF y1 (nI (n + 1)) ce la)), (y1, aI G 60 (upd cd n (nI j))), (e, aJ G 1 (vp_updL og 0 (Int32.toInt64 (nI (n + 1)))))]) ∨ (r = some (.int 1) ∧ ¬ isR x 33 126 ∧ w1 = [(K, ob 4 (kF p o v t y)), (y, ob 3 (tF y1 tl ce la)), (y1, aI G 60 cd), (e, aJ G 1 og)]) ∨ (r = some (.int 2) ∧ isR x 33 126 ∧ n = 60 ∧ w1 = [(K, ob 4 (kF p o v t y)), (y, ob 3 (tF y1 tl ce la)), (y1, aI G 60 cd), (e, aJ G 1 og)]))) := by
  refine ConH.mk (by decide +kernel) (Nat.le_of_ble_eq_true rfl) (fun P C Rr => ?_)
  refine st_aload_n C.cx (dk DL_append_0 0 rfl) rfl ?_
  refine st_iconst C.cx (v := 0) (dk DL_append_0 1 rfl) (by decide) ?_
  refine st_aload_n C.cx (dk DL_append_0 2 rfl) rfl ?_
  refine st_iload_n C.cx (dk DL_append_0 3 rfl) rfl ?_
  refine st_callX C (k_X5_append l G hlt htl hn) mf_X5_append mi_X5_append mq_RL_39 (dk DL_append_0 4 rfl) [0, 1, 2] rfl rfl rfl rfl (Nat.le_of_ble_eq_true rfl) rfl rfl ⟨Nat.le_of_ble_eq_true rfl, Nat.le_of_ble_eq_true rfl⟩ ⟨Nat.le_of_ble_eq_true rfl, Nat.le_of_ble_eq_true rfl⟩ (fun E w9 hq9 => ?_) (fun r9 w9 v9 hq9 => ?_)
  · rcases hq9 with ⟨rfl, h_1, rfl⟩ | ⟨rfl, h_1, h_2, rfl⟩
    · refine ⟨12, hd_L_append_xIA, fun q9 => ?_⟩
      simp only [put_cons, put_nil, List.set_cons_zero, List.set_cons_succ]
      refine st_astore_n C.cx (dk DL_append_0 8 rfl) (by decide) rfl ?_
      refine st_iconst C.cx (v := 1) (dk DL_append_0 9 rfl) (by decide) ?_
      exact Rr _ _ _ _ _ _ _ _ (Nat.le_of_ble_eq_true rfl) (Nat.le_of_ble_eq_true rfl) (dk DL_append_0 10 rfl) (.inr (.inl ⟨_, rfl, rfl, rfl, rfl⟩)) rfl ⟨rfl, Or.inr (Or.inl ⟨rfl, h_1, rfl⟩)⟩
    · refine ⟨15, hd_L_append_xIS, fun q9 => ?_⟩
      simp only [put_cons, put_nil, List.set_cons_zero, List.set_cons_succ]
      refine st_astore_n C.cx (dk DL_append_0 11 rfl) (by decide) rfl ?_
      refine st_iconst C.cx (v := 2) (dk DL_append_0 12 rfl) (by decide) ?_
      exact Rr _ _ _ _ _ _ _ _ (Nat.le_of_ble_eq_true rfl) (Nat.le_of_ble_eq_true rfl) (dk DL_append_0 13 rfl) (.inr (.inl ⟨_, rfl, rfl, rfl, rfl⟩)) rfl ⟨rfl, Or.inr (Or.inr (⟨rfl, h_1, h_2, rfl⟩))⟩
  · obtain ⟨rfl, j, h_1, h_2, h_3, h_4, rfl, rfl⟩ := hq9
    simp only [put_cons, put_nil, List.set_cons_zero, List.set_cons_succ]
    refine st_i2l C.cx (dk DL_append_0 5 rfl) ?_
    refine st_last C.cx (dk DL_append_0 6 rfl) 3 rfl (by unfold vp_in; decide) ?_
    refine st_goto C.cx (tgt := 18) (dk DL_append_0 7 rfl) (by decide) ?_
    refine st_iconst C.cx (v := 0) (dk DL_append_0 14 rfl) (by decide) ?_
    exact Rr _ _ _ _ _ _ _ _ (Nat.le_of_ble_eq_true rfl) (Nat.le_of_ble_eq_true rfl) (dk DL_append_0 15 rfl) (.inr (.inl ⟨_, rfl, rfl, rfl, rfl⟩)) rfl ⟨rfl, Or.inl ⟨j, h_1, h_2, h_3, h_4, rfl, rfl⟩⟩
set_option maxHeartbeats 4000000 in
set_option maxRecDepth 100000 in
theorem kw_corridor (l : Launch) (G : wG) (hlt : l.stackTraces = false) {K p q1 q2 o o1 o2 v v1 t y y1 : Nat} {s : mS} {ns lk ld : Nat → Int32} {os olk old : Nat → Int32} {u u1 u2 : Nat → Nat} {nx sz : Int32} {rs rl rd : Nat → Nat → Int32} {k : Nat} {pp : Nat → mS} {tl ce la : Int32} {cd : Nat → Int32} {n : Nat} {tx : Nat → Nat} {e : Nat} {og : Nat → Int64} (hC : CRep s ns lk ld) (hSv : SvR k pp nx sz rs rl rd) (htl : tl = nI n) (hn : n ≤ 60) (ht : hdT cd n tx) : ConH l G yL_corridor cL_corridor 3 (some .int) hh_L_corridor 8 1 6 [.ref K, .ref e] [(K, ob 4 (kF p o v t y)), (p, ob 0 (cR q1 q2 ns)), (q1, aI G 15 lk), (q2, aI G 16 ld), (o, ob 0 (cR o1 o2 os)), (o1, aI G 15 olk), (o2, aI G 16 old), (v, ob 1 (vF v1 nx sz)), (v1, aQ G 6 (fun k => some (u k))), (u 0, ob 0 (cR (u1 0) (u2 0) (rs 0))), (u1 0, aI G 15 (rl 0)), (u2 0, aI G 16 (rd 0)), (u 1, ob 0 (cR (u1 1) (u2 1) (rs 1))), (u1 1, aI G 15 (rl 1)), (u2 1, aI G 16 (rd 1)), (u 2, ob 0 (cR (u1 2) (u2 2) (rs 2))), (u1 2, aI G 15 (rl 2)), (u2 2, aI G 16 (rd 2)), (u 3, ob 0 (cR (u1 3) (u2 3) (rs 3))), (u1 3, aI G 15 (rl 3)), (u2 3, aI G 16 (rd 3)), (u 4, ob 0 (cR (u1 4) (u2 4) (rs 4))), (u1 4, aI G 15 (rl 4)), (u2 4, aI G 16 (rd 4)), (u 5, ob 0 (cR (u1 5) (u2 5) (rs 5))), (u1 5, aI G 15 (rl 5)), (u2 5, aI G 16 (rd 5)), (y, ob 3 (tF y1 tl ce la)), (y1, aI G 60 cd), (e, aJ G 1 og)] (fun r w1 w2 => w2 = [] ∧ ((∃ (c la dg : Nat) (kf df lf : mS), tRun tx (fe tx n) = some (c, la, dg, kf, df, lf) ∧ fe tx n = n ∧ c = 16 ∧ r = some (.int 0) ∧ ∃ (ns9 lk9 ld9 os9 olk9 old9 : Nat → Int32) (nx9 sz9 : Int32) (rs9 rl9 rd9 : Nat → Nat → Int32) (ce9 la9 : Int32), CRep (tS s kf df lf) ns9 lk9 ld9 ∧ SvR (svK k) (svP s k pp) nx9 sz9 rs9 rl9 rd9 ∧ w1 = [(K, ob 4 (kF p o v t y)), (p, ob 0 (cR q1 q2 ns9)), (q1, aI G 15 lk9), (q2, aI G 16 ld9), (o, ob 0 (cR o1 o2 os9)), (o1, aI G 15 olk9), (o2, aI G 16 old9), (v, ob 1 (vF v1 nx9 sz9)), (v1, aQ G 6 (fun k => some (u k))), (u 0, ob 0 (cR (u1 0) (u2 0) (rs9 0))), (u1 0, aI G 15 (rl9 0)), (u2 0, aI G 16 (rd9 0)), (u 1, ob 0 (cR (u1 1) (u2 1) (rs9 1))), (u1 1, aI G 15 (rl9 1)), (u2 1, aI G 16 (rd9 1)), (u 2, ob 0 (cR (u1 2) (u2 2) (rs9 2))), (u1 2, aI G 15 (rl9 2)), (u2 2, aI G 16 (rd9 2)), (u 3, ob 0 (cR (u1 3) (u2 3) (rs9 3))), (u1 3, aI G 15 (rl9 3)), (u2 3, aI G 16 (rd9 3)), (u 4, ob 0 (cR (u1 4) (u2 4) (rs9 4))), (u1 4, aI G 15 (rl9 4)), (u2 4, aI G 16 (rd9 4)), (u 5, ob 0 (cR (u1 5) (u2 5) (rs9 5))), (u1 5, aI G 15 (rl9 5)), (u2 5, aI G 16 (rd9 5)), (y, ob 3 (tF y1 0 ce9 la9)), (y1, aI G 60 cd), (e, aJ G 1 (vp_updL og 0 (Int32.toInt64 (nI (kcN (tS s kf df lf) 16)))))]) ∨ (r = some (.int 1) ∧ ∃ (c la dg : Nat) (kf df lf : mS), tRun tx (fe tx n) = some (c, la, dg, kf, df, lf) ∧ ¬ (fe tx n = n ∧ c = 16) ∧ ∃ (os9 olk9 old9 : Nat → Int32) (ce9 la9 : Int32), w1 = [(K, ob 4 (kF p o v t y)), (p, ob 0 (cR q1 q2 ns)), (q1, aI G 15 lk), (q2, aI G 16 ld), (o, ob 0 (cR o1 o2 os9)), (o1, aI G 15 olk9), (o2, aI G 16 old9), (v, ob 1 (vF v1 nx sz)), (v1, aQ G 6 (fun k => some (u k))), (u 0, ob 0 (cR (u1 0) (u2 0) (rs 0))), (u1 0, aI G 15 (rl 0)), (u2 0, aI G 16 (rd 0)), (u 1, ob 0 (cR (u1 1) (u2 1) (rs 1))), (u1 1, aI G 15 (rl 1)), (u2 1, aI G 16 (rd 1)), (u 2, ob 0 (cR (u1 2) (u2 2) (rs 2))), (u1 2, aI G 15 (rl 2)), (u2 2, aI G 16 (rd 2)), (u 3, ob 0 (cR (u1 3) (u2 3) (rs 3))), (u1 3, aI G 15 (rl 3)), (u2 3, aI G 16 (rd 3)), (u 4, ob 0 (cR (u1 4) (u2 4) (rs 4))), (u1 4, aI G 15 (rl 4)), (u2 4, aI G 16 (rd 4)), (u 5, ob 0 (cR (u1 5) (u2 5) (rs 5))), (u1 5, aI G 15 (rl 5)), (u2 5, aI G 16 (rd 5)), (y, ob 3 (tF y1 tl ce9 la9)), (y1, aI G 60 cd), (e, aJ G 1 og)]))) := by
  refine ConH.mk (by decide +kernel) (Nat.le_of_ble_eq_true rfl) (fun P C Rr => ?_)
  refine st_aload_n C.cx (dk DL_corridor_0 0 rfl) rfl ?_
  refine st_iconst C.cx (v := 0) (dk DL_corridor_0 1 rfl) (by decide) ?_
  refine st_aload_n C.cx (dk DL_corridor_0 2 rfl) rfl ?_
  refine st_callX C (k_X5_corridor l G hlt hC hSv htl hn ht) mf_X5_corridor mi_X5_corridor mq_RL_42 (dk DL_corridor_0 3 rfl) [0, 1, 2, 3, 4, 5, 6, 7, 8, 9, 10, 11, 12, 13, 14, 15, 16, 17, 18, 19, 20, 21, 22, 23, 24, 25, 26, 27, 28] (hC_cons rfl (hC_cons rfl (hC_cons rfl (hC_cons rfl (hC_cons rfl (hC_cons rfl (hC_cons rfl (hC_cons rfl (hC_cons rfl (hC_cons rfl (hC_cons rfl (hC_cons rfl (hC_cons rfl (hC_cons rfl (hC_cons rfl (hC_cons rfl (hC_cons rfl (hC_cons rfl (hC_cons rfl (hC_cons rfl (hC_cons rfl (hC_cons rfl (hC_cons rfl (hC_cons rfl (hC_cons rfl (hC_cons rfl (hC_cons rfl (hC_cons rfl (hC_cons rfl (hC_nil)))))))))))))))))))))))))))))) (by decide +kernel) rfl rfl (Nat.le_of_ble_eq_true rfl) rfl rfl ⟨Nat.le_of_ble_eq_true rfl, Nat.le_of_ble_eq_true rfl⟩ ⟨Nat.le_of_ble_eq_true rfl, Nat.le_of_ble_eq_true rfl⟩ (fun E w9 hq9 => ?_) (fun r9 w9 v9 hq9 => ?_)
  · rcases hq9 with ⟨rfl, c, la, dg, kf, df, lf, h_1, h_2, os9, olk9, old9, ce9, la9, rfl⟩
    refine ⟨11, hd_L_corridor_xIA, fun q9 => ?_⟩
    simp only [put_cons, put_nil, List.set_cons_zero, List.set_cons_succ]
    refine st_astore_n C.cx (dk DL_corridor_0 7 rfl) (by decide) rfl ?_
    refine st_iconst C.cx (v := 1) (dk DL_corridor_0 8 rfl) (by decide) ?_
    exact Rr _ _ _ _ _ _ _ _ (Nat.le_of_ble_eq_true rfl) (Nat.le_of_ble_eq_true rfl) (dk DL_corridor_0 9 rfl) (.inr (.inl ⟨_, rfl, rfl, rfl, rfl⟩)) rfl ⟨rfl, Or.inr (⟨rfl, c, la, dg, kf, df, lf, h_1, h_2, os9, olk9, old9, ce9, la9, rfl⟩)⟩
  · obtain ⟨rfl, c, la, dg, kf, df, lf, h_1, h_2, h_3, rfl, ns9, lk9, ld9, os9, olk9, old9, nx9, sz9, rs9, rl9, rd9, ce9, la9, h_4, h_5, rfl⟩ := hq9
    simp only [put_cons, put_nil, List.set_cons_zero, List.set_cons_succ]
    refine st_i2l C.cx (dk DL_corridor_0 4 rfl) ?_
    refine st_last C.cx (dk DL_corridor_0 5 rfl) 29 rfl (by unfold vp_in; decide) ?_
    refine st_goto C.cx (tgt := 14) (dk DL_corridor_0 6 rfl) (by decide) ?_
    refine st_iconst C.cx (v := 0) (dk DL_corridor_0 10 rfl) (by decide) ?_
    exact Rr _ _ _ _ _ _ _ _ (Nat.le_of_ble_eq_true rfl) (Nat.le_of_ble_eq_true rfl) (dk DL_corridor_0 11 rfl) (.inr (.inl ⟨_, rfl, rfl, rfl, rfl⟩)) rfl ⟨rfl, Or.inl ⟨c, la, dg, kf, df, lf, h_1, h_2, h_3, rfl, ns9, lk9, ld9, os9, olk9, old9, nx9, sz9, rs9, rl9, rd9, ce9, la9, h_4, h_5, rfl⟩⟩
set_option maxHeartbeats 4000000 in
set_option maxRecDepth 100000 in
theorem kw_undo (l : Launch) (G : wG) (hlt : l.stackTraces = false) {K p q1 q2 o v v1 t y : Nat} {ns lk ld : Nat → Int32} {u u1 u2 : Nat → Nat} {nx sz : Int32} {rs rl rd : Nat → Nat → Int32} {k : Nat} {pp : Nat → mS} {e : Nat} {og : Nat → Int64} (hSv : SvR k pp nx sz rs rl rd) : ConH l G yL_undo cL_undo 3 (some .int) hh_L_undo 7 1 6 [.ref K, .ref e] [(K, ob 4 (kF p o v t y)), (p, ob 0 (cR q1 q2 ns)), (q1, aI G 15 lk), (q2, aI G 16 ld), (v, ob 1 (vF v1 nx sz)), (v1, aQ G 6 (fun k => some (u k))), (u 0, ob 0 (cR (u1 0) (u2 0) (rs 0))), (u1 0, aI G 15 (rl 0)), (u2 0, aI G 16 (rd 0)), (u 1, ob 0 (cR (u1 1) (u2 1) (rs 1))), (u1 1, aI G 15 (rl 1)), (u2 1, aI G 16 (rd 1)), (u 2, ob 0 (cR (u1 2) (u2 2) (rs 2))), (u1 2, aI G 15 (rl 2)), (u2 2, aI G 16 (rd 2)), (u 3, ob 0 (cR (u1 3) (u2 3) (rs 3))), (u1 3, aI G 15 (rl 3)), (u2 3, aI G 16 (rd 3)), (u 4, ob 0 (cR (u1 4) (u2 4) (rs 4))), (u1 4, aI G 15 (rl 4)), (u2 4, aI G 16 (rd 4)), (u 5, ob 0 (cR (u1 5) (u2 5) (rs 5))), (u1 5, aI G 15 (rl 5)), (u2 5, aI G 16 (rd 5)), (e, aJ G 1 og)] (fun r w1 w2 => w2 = [] ∧ ((0 < k ∧ r = some (.int 0) ∧ ∃ (ns9 lk9 ld9 : Nat → Int32) (nx9 sz9 : Int32), CRep (pp (k - 1)) ns9 lk9 ld9 ∧ SvR (k - 1) pp nx9 sz9 rs rl rd ∧ w1 = [(K, ob 4 (kF p o v t y)), (p, ob 0 (cR q1 q2 ns9)), (q1, aI G 15 lk9), (q2, aI G 16 ld9), (v, ob 1 (vF v1 nx9 sz9)), (v1, aQ G 6 (fun k => some (u k))), (u 0, ob 0 (cR (u1 0) (u2 0) (rs 0))), (u1 0, aI G 15 (rl 0)), (u2 0, aI G 16 (rd 0)), (u 1, ob 0 (cR (u1 1) (u2 1) (rs 1))), (u1 1, aI G 15 (rl 1)), (u2 1, aI G 16 (rd 1)), (u 2, ob 0 (cR (u1 2) (u2 2) (rs 2))), (u1 2, aI G 15 (rl 2)), (u2 2, aI G 16 (rd 2)), (u 3, ob 0 (cR (u1 3) (u2 3) (rs 3))), (u1 3, aI G 15 (rl 3)), (u2 3, aI G 16 (rd 3)), (u 4, ob 0 (cR (u1 4) (u2 4) (rs 4))), (u1 4, aI G 15 (rl 4)), (u2 4, aI G 16 (rd 4)), (u 5, ob 0 (cR (u1 5) (u2 5) (rs 5))), (u1 5, aI G 15 (rl 5)), (u2 5, aI G 16 (rd 5)), (e, aJ G 1 (vp_updL og 0 (Int32.toInt64 (nI (k - 1)))))]) ∨ (r = some (.int 1) ∧ k = 0 ∧ w1 = [(K, ob 4 (kF p o v t y)), (p, ob 0 (cR q1 q2 ns)), (q1, aI G 15 lk), (q2, aI G 16 ld), (v, ob 1 (vF v1 nx sz)), (v1, aQ G 6 (fun k => some (u k))), (u 0, ob 0 (cR (u1 0) (u2 0) (rs 0))), (u1 0, aI G 15 (rl 0)), (u2 0, aI G 16 (rd 0)), (u 1, ob 0 (cR (u1 1) (u2 1) (rs 1))), (u1 1, aI G 15 (rl 1)), (u2 1, aI G 16 (rd 1)), (u 2, ob 0 (cR (u1 2) (u2 2) (rs 2))), (u1 2, aI G 15 (rl 2)), (u2 2, aI G 16 (rd 2)), (u 3, ob 0 (cR (u1 3) (u2 3) (rs 3))), (u1 3, aI G 15 (rl 3)), (u2 3, aI G 16 (rd 3)), (u 4, ob 0 (cR (u1 4) (u2 4) (rs 4))), (u1 4, aI G 15 (rl 4)), (u2 4, aI G 16 (rd 4)), (u 5, ob 0 (cR (u1 5) (u2 5) (rs 5))), (u1 5, aI G 15 (rl 5)), (u2 5, aI G 16 (rd 5)), (e, aJ G 1 og)]))) := by
  refine ConH.mk (by decide +kernel) (Nat.le_of_ble_eq_true rfl) (fun P C Rr => ?_)
  refine st_aload_n C.cx (dk DL_undo_0 0 rfl) rfl ?_
  refine st_iconst C.cx (v := 0) (dk DL_undo_0 1 rfl) (by decide) ?_
  refine st_aload_n C.cx (dk DL_undo_0 2 rfl) rfl ?_
  refine st_callX C (k_X5_undo l G hlt hSv) mf_X5_undo mi_X5_undo mq_RL_46 (dk DL_undo_0 3 rfl) [0, 1, 2, 3, 4, 5, 6, 7, 8, 9, 10, 11, 12, 13, 14, 15, 16, 17, 18, 19, 20, 21, 22, 23] (hC_cons rfl (hC_cons rfl (hC_cons rfl (hC_cons rfl (hC_cons rfl (hC_cons rfl (hC_cons rfl (hC_cons rfl (hC_cons rfl (hC_cons rfl (hC_cons rfl (hC_cons rfl (hC_cons rfl (hC_cons rfl (hC_cons rfl (hC_cons rfl (hC_cons rfl (hC_cons rfl (hC_cons rfl (hC_cons rfl (hC_cons rfl (hC_cons rfl (hC_cons rfl (hC_cons rfl (hC_nil))))))))))))))))))))))))) (by decide +kernel) rfl rfl (Nat.le_of_ble_eq_true rfl) rfl rfl ⟨Nat.le_of_ble_eq_true rfl, Nat.le_of_ble_eq_true rfl⟩ ⟨Nat.le_of_ble_eq_true rfl, Nat.le_of_ble_eq_true rfl⟩ (fun E w9 hq9 => ?_) (fun r9 w9 v9 hq9 => ?_)
  · rcases hq9 with ⟨rfl, h_1, rfl⟩
    refine ⟨11, hd_L_undo_xIS, fun q9 => ?_⟩
    simp only [put_cons, put_nil, List.set_cons_zero, List.set_cons_succ]
    refine st_astore_n C.cx (dk DL_undo_0 7 rfl) (by decide) rfl ?_
    refine st_iconst C.cx (v := 1) (dk DL_undo_0 8 rfl) (by decide) ?_
    exact Rr _ _ _ _ _ _ _ _ (Nat.le_of_ble_eq_true rfl) (Nat.le_of_ble_eq_true rfl) (dk DL_undo_0 9 rfl) (.inr (.inl ⟨_, rfl, rfl, rfl, rfl⟩)) rfl ⟨rfl, Or.inr (⟨rfl, h_1, rfl⟩)⟩
  · obtain ⟨rfl, h_1, rfl, ns9, lk9, ld9, nx9, sz9, h_2, h_3, rfl⟩ := hq9
    simp only [put_cons, put_nil, List.set_cons_zero, List.set_cons_succ]
    refine st_i2l C.cx (dk DL_undo_0 4 rfl) ?_
    refine st_last C.cx (dk DL_undo_0 5 rfl) 24 rfl (by unfold vp_in; decide) ?_
    refine st_goto C.cx (tgt := 14) (dk DL_undo_0 6 rfl) (by decide) ?_
    refine st_iconst C.cx (v := 0) (dk DL_undo_0 10 rfl) (by decide) ?_
    exact Rr _ _ _ _ _ _ _ _ (Nat.le_of_ble_eq_true rfl) (Nat.le_of_ble_eq_true rfl) (dk DL_undo_0 11 rfl) (.inr (.inl ⟨_, rfl, rfl, rfl, rfl⟩)) rfl ⟨rfl, Or.inl ⟨h_1, rfl, ns9, lk9, ld9, nx9, sz9, h_2, h_3, rfl⟩⟩
set_option maxHeartbeats 4000000 in
set_option maxRecDepth 100000 in
theorem kw_cell (l : Launch) (G : wG) (hlt : l.stackTraces = false) {K p q1 q2 o v t t1 t2 t3 t4 y : Nat} {s : mS} {ns lk ld : Nat → Int32} {zz rc : Int32} {en : Nat → Int32} {sn : Nat → Int64} {nd ln : Nat → Int32} {x z : Int32} {e : Nat} {og : Nat → Int64} (hC : CRep s ns lk ld) : ConH l G yL_cell cL_cell 5 (some .int) hh_L_cell 7 1 6 [.ref K, .int x, .int z, .ref e] [(K, ob 4 (kF p o v t y)), (p, ob 0 (cR q1 q2 ns)), (q1, aI G 15 lk), (q2, aI G 16 ld), (t, ob 2 (sF t1 t2 t3 t4 zz rc)), (t1, aI G 4624 en), (t2, aJ G 256 sn), (t3, aI G 16 nd), (t4, aI G 16 ln), (e, aJ G 1 og)] (fun r w1 w2 => w2 = [] ∧ ((∃ j i, j ≤ 15 ∧ i ≤ 6 ∧ x = nI j ∧ z = nI i ∧ r = some (.int 0) ∧ ∃ (zz9 rc9 : Int32) (en9 : Nat → Int32) (sn9 : Nat → Int64) (nd9 ln9 : Nat → Int32), w1 = [(K, ob 4 (kF p o v t y)), (p, ob 0 (cR q1 q2 ns)), (q1, aI G 15 lk), (q2, aI G 16 ld), (t, ob 2 (sF t1 t2 t3 t4 zz9 rc9)), (t1, aI G 4624 en9), (t2, aJ G 256 sn9), (t3, aI G 16 nd9), (t4, aI G 16 ln9), (e, aJ G 1 (vp_updL og 0 (Int32.toInt64 (ofI s j i))))]) ∨ (r = some (.int 1) ∧ ¬ isN x 15 ∧ w1 = [(K, ob 4 (kF p o v t y)), (p, ob 0 (cR q1 q2 ns)), (q1, aI G 15 lk), (q2, aI G 16 ld), (t, ob 2 (sF t1 t2 t3 t4 zz rc)), (t1, aI G 4624 en), (t2, aJ G 256 sn), (t3, aI G 16 nd), (t4, aI G 16 ln), (e, aJ G 1 og)]) ∨ (r = some (.int 2) ∧ isN x 15 ∧ ¬ isN z 6 ∧ w1 = [(K, ob 4 (kF p o v t y)), (p, ob 0 (cR q1 q2 ns)), (q1, aI G 15 lk), (q2, aI G 16 ld), (t, ob 2 (sF t1 t2 t3 t4 zz rc)), (t1, aI G 4624 en), (t2, aJ G 256 sn), (t3, aI G 16 nd), (t4, aI G 16 ln), (e, aJ G 1 og)]))) := by
  refine ConH.mk (by decide +kernel) (Nat.le_of_ble_eq_true rfl) (fun P C Rr => ?_)
  refine st_aload_n C.cx (dk DL_cell_0 0 rfl) rfl ?_
  refine st_iconst C.cx (v := 0) (dk DL_cell_0 1 rfl) (by decide) ?_
  refine st_aload_n C.cx (dk DL_cell_0 2 rfl) rfl ?_
  refine st_iload_n C.cx (dk DL_cell_0 3 rfl) rfl ?_
  refine st_iload_n C.cx (dk DL_cell_0 4 rfl) rfl ?_
  refine st_callX C (k_X5_cell l G hlt hC) mf_X5_cell mi_X5_cell mq_RL_49 (dk DL_cell_0 5 rfl) [0, 1, 2, 3, 4, 5, 6, 7, 8] rfl rfl rfl rfl (Nat.le_of_ble_eq_true rfl) rfl rfl ⟨Nat.le_of_ble_eq_true rfl, Nat.le_of_ble_eq_true rfl⟩ ⟨Nat.le_of_ble_eq_true rfl, Nat.le_of_ble_eq_true rfl⟩ (fun E w9 hq9 => ?_) (fun r9 w9 v9 hq9 => ?_)
  · rcases hq9 with ⟨rfl, h_1, rfl⟩ | ⟨rfl, h_1, h_2, rfl⟩
    · refine ⟨13, hd_L_cell_xIO, fun q9 => ?_⟩
      simp only [put_cons, put_nil, List.set_cons_zero, List.set_cons_succ]
      refine st_astore C.cx (dk DL_cell_0 9 rfl) (by decide) rfl ?_
      refine st_iconst C.cx (v := 1) (dk DL_cell_0 10 rfl) (by decide) ?_
      exact Rr _ _ _ _ _ _ _ _ (Nat.le_of_ble_eq_true rfl) (Nat.le_of_ble_eq_true rfl) (dk DL_cell_0 11 rfl) (.inr (.inl ⟨_, rfl, rfl, rfl, rfl⟩)) rfl ⟨rfl, Or.inr (Or.inl ⟨rfl, h_1, rfl⟩)⟩
    · refine ⟨17, hd_L_cell_xIA, fun q9 => ?_⟩
      simp only [put_cons, put_nil, List.set_cons_zero, List.set_cons_succ]
      refine st_astore C.cx (dk DL_cell_0 12 rfl) (by decide) rfl ?_
      refine st_iconst C.cx (v := 2) (dk DL_cell_0 13 rfl) (by decide) ?_
      exact Rr _ _ _ _ _ _ _ _ (Nat.le_of_ble_eq_true rfl) (Nat.le_of_ble_eq_true rfl) (dk DL_cell_0 14 rfl) (.inr (.inl ⟨_, rfl, rfl, rfl, rfl⟩)) rfl ⟨rfl, Or.inr (Or.inr (⟨rfl, h_1, h_2, rfl⟩))⟩
  · obtain ⟨rfl, j, i, h_1, h_2, h_3, h_4, rfl, zz9, rc9, en9, sn9, nd9, ln9, rfl⟩ := hq9
    simp only [put_cons, put_nil, List.set_cons_zero, List.set_cons_succ]
    refine st_i2l C.cx (dk DL_cell_0 6 rfl) ?_
    refine st_last C.cx (dk DL_cell_0 7 rfl) 9 rfl (by unfold vp_in; decide) ?_
    refine st_goto C.cx (tgt := 21) (dk DL_cell_0 8 rfl) (by decide) ?_
    refine st_iconst C.cx (v := 0) (dk DL_cell_0 15 rfl) (by decide) ?_
    exact Rr _ _ _ _ _ _ _ _ (Nat.le_of_ble_eq_true rfl) (Nat.le_of_ble_eq_true rfl) (dk DL_cell_0 16 rfl) (.inr (.inl ⟨_, rfl, rfl, rfl, rfl⟩)) rfl ⟨rfl, Or.inl ⟨j, i, h_1, h_2, h_3, h_4, rfl, zz9, rc9, en9, sn9, nd9, ln9, rfl⟩⟩
set_option maxHeartbeats 4000000 in
set_option maxRecDepth 100000 in
theorem kw_walker (l : Launch) (G : wG) (hlt : l.stackTraces = false) {K p q1 q2 o v t y : Nat} {s : mS} {ns lk ld : Nat → Int32} {x : Int32} {e : Nat} {og : Nat → Int64} (hC : CRep s ns lk ld) : ConH l G yL_walker cL_walker 4 (some .int) hh_L_walker 7 1 6 [.ref K, .int x, .ref e] [(K, ob 4 (kF p o v t y)), (p, ob 0 (cR q1 q2 ns)), (q1, aI G 15 lk), (q2, aI G 16 ld), (e, aJ G 1 og)] (fun r w1 w2 => w2 = [] ∧ ((∃ j, j ≤ 4 ∧ x = nI j ∧ r = some (.int 0) ∧ w1 = [(K, ob 4 (kF p o v t y)), (p, ob 0 (cR q1 q2 ns)), (q1, aI G 15 lk), (q2, aI G 16 ld), (e, aJ G 1 (vp_updL og 0 (Int32.toInt64 (nI (s (1 + j))))))]) ∨ (r = some (.int 1) ∧ ¬ isN x 4 ∧ w1 = [(K, ob 4 (kF p o v t y)), (p, ob 0 (cR q1 q2 ns)), (q1, aI G 15 lk), (q2, aI G 16 ld), (e, aJ G 1 og)]))) := by
  refine ConH.mk (by decide +kernel) (Nat.le_of_ble_eq_true rfl) (fun P C Rr => ?_)
  refine st_aload_n C.cx (dk DL_walker_0 0 rfl) rfl ?_
  refine st_iconst C.cx (v := 0) (dk DL_walker_0 1 rfl) (by decide) ?_
  refine st_aload_n C.cx (dk DL_walker_0 2 rfl) rfl ?_
  refine st_iload_n C.cx (dk DL_walker_0 3 rfl) rfl ?_
  refine st_callX C (k_X5_walker l G hlt hC) mf_X5_walker mi_X5_walker mq_RL_52 (dk DL_walker_0 4 rfl) [0, 1, 2, 3] rfl rfl rfl rfl (Nat.le_of_ble_eq_true rfl) rfl rfl ⟨Nat.le_of_ble_eq_true rfl, Nat.le_of_ble_eq_true rfl⟩ ⟨Nat.le_of_ble_eq_true rfl, Nat.le_of_ble_eq_true rfl⟩ (fun E w9 hq9 => ?_) (fun r9 w9 v9 hq9 => ?_)
  · rcases hq9 with ⟨rfl, h_1, rfl⟩
    refine ⟨12, hd_L_walker_xIA, fun q9 => ?_⟩
    simp only [put_cons, put_nil, List.set_cons_zero, List.set_cons_succ]
    refine st_astore_n C.cx (dk DL_walker_0 8 rfl) (by decide) rfl ?_
    refine st_iconst C.cx (v := 1) (dk DL_walker_0 9 rfl) (by decide) ?_
    exact Rr _ _ _ _ _ _ _ _ (Nat.le_of_ble_eq_true rfl) (Nat.le_of_ble_eq_true rfl) (dk DL_walker_0 10 rfl) (.inr (.inl ⟨_, rfl, rfl, rfl, rfl⟩)) rfl ⟨rfl, Or.inr (⟨rfl, h_1, rfl⟩)⟩
  · obtain ⟨rfl, j, h_1, h_2, rfl, rfl⟩ := hq9
    simp only [put_cons, put_nil, List.set_cons_zero, List.set_cons_succ]
    refine st_i2l C.cx (dk DL_walker_0 5 rfl) ?_
    refine st_last C.cx (dk DL_walker_0 6 rfl) 4 rfl (by unfold vp_in; decide) ?_
    refine st_goto C.cx (tgt := 15) (dk DL_walker_0 7 rfl) (by decide) ?_
    refine st_iconst C.cx (v := 0) (dk DL_walker_0 11 rfl) (by decide) ?_
    exact Rr _ _ _ _ _ _ _ _ (Nat.le_of_ble_eq_true rfl) (Nat.le_of_ble_eq_true rfl) (dk DL_walker_0 12 rfl) (.inr (.inl ⟨_, rfl, rfl, rfl, rfl⟩)) rfl ⟨rfl, Or.inl ⟨j, h_1, h_2, rfl, rfl⟩⟩
set_option maxHeartbeats 4000000 in
set_option maxRecDepth 100000 in
theorem kw_plan (l : Launch) (G : wG) (hlt : l.stackTraces = false) {K p q1 q2 o v t t1 t2 t3 t4 y : Nat} {s : mS} {ns lk ld : Nat → Int32} {zz rc : Int32} {en : Nat → Int32} {sn : Nat → Int64} {nd ln : Nat → Int32} {x z : Int32} {e : Nat} {og : Nat → Int64} (hC : CRep s ns lk ld) : ConH l G yL_plan cL_plan 5 (some .int) hh_L_plan 7 1 6 [.ref K, .int x, .int z, .ref e] [(K, ob 4 (kF p o v t y)), (p, ob 0 (cR q1 q2 ns)), (q1, aI G 15 lk), (q2, aI G 16 ld), (t, ob 2 (sF t1 t2 t3 t4 zz rc)), (t1, aI G 4624 en), (t2, aJ G 256 sn), (t3, aI G 16 nd), (t4, aI G 16 ln), (e, aJ G 1 og)] (fun r w1 w2 => w2 = [] ∧ ((∃ j i, j ≤ 15 ∧ i < 2 ^ 31 ∧ x = nI j ∧ z = nI i ∧ r = some (.int 0) ∧ ∃ (zz9 rc9 : Int32) (en9 : Nat → Int32) (sn9 : Nat → Int64) (nd9 ln9 : Nat → Int32), w1 = [(K, ob 4 (kF p o v t y)), (p, ob 0 (cR q1 q2 ns)), (q1, aI G 15 lk), (q2, aI G 16 ld), (t, ob 2 (sF t1 t2 t3 t4 zz9 rc9)), (t1, aI G 4624 en9), (t2, aJ G 256 sn9), (t3, aI G 16 nd9), (t4, aI G 16 ln9), (e, aJ G 1 (vp_updL og 0 (Int32.toInt64 (plI (fS s) j i))))]) ∨ (r = some (.int 1) ∧ ¬ isN x 15 ∧ w1 = [(K, ob 4 (kF p o v t y)), (p, ob 0 (cR q1 q2 ns)), (q1, aI G 15 lk), (q2, aI G 16 ld), (t, ob 2 (sF t1 t2 t3 t4 zz rc)), (t1, aI G 4624 en), (t2, aJ G 256 sn), (t3, aI G 16 nd), (t4, aI G 16 ln), (e, aJ G 1 og)]) ∨ (r = some (.int 2) ∧ isN x 15 ∧ z < 0 ∧ w1 = [(K, ob 4 (kF p o v t y)), (p, ob 0 (cR q1 q2 ns)), (q1, aI G 15 lk), (q2, aI G 16 ld), (t, ob 2 (sF t1 t2 t3 t4 zz rc)), (t1, aI G 4624 en), (t2, aJ G 256 sn), (t3, aI G 16 nd), (t4, aI G 16 ln), (e, aJ G 1 og)]))) := by
  refine ConH.mk (by decide +kernel) (Nat.le_of_ble_eq_true rfl) (fun P C Rr => ?_)
  refine st_aload_n C.cx (dk DL_plan_0 0 rfl) rfl ?_
  refine st_iconst C.cx (v := 0) (dk DL_plan_0 1 rfl) (by decide) ?_
  refine st_aload_n C.cx (dk DL_plan_0 2 rfl) rfl ?_
  refine st_iload_n C.cx (dk DL_plan_0 3 rfl) rfl ?_
  refine st_iload_n C.cx (dk DL_plan_0 4 rfl) rfl ?_
  refine st_callX C (k_X5_plan l G hlt hC) mf_X5_plan mi_X5_plan mq_RL_55 (dk DL_plan_0 5 rfl) [0, 1, 2, 3, 4, 5, 6, 7, 8] rfl rfl rfl rfl (Nat.le_of_ble_eq_true rfl) rfl rfl ⟨Nat.le_of_ble_eq_true rfl, Nat.le_of_ble_eq_true rfl⟩ ⟨Nat.le_of_ble_eq_true rfl, Nat.le_of_ble_eq_true rfl⟩ (fun E w9 hq9 => ?_) (fun r9 w9 v9 hq9 => ?_)
  · rcases hq9 with ⟨rfl, h_1, rfl⟩ | ⟨rfl, h_1, h_2, rfl⟩
    · refine ⟨13, hd_L_plan_xIO, fun q9 => ?_⟩
      simp only [put_cons, put_nil, List.set_cons_zero, List.set_cons_succ]
      refine st_astore C.cx (dk DL_plan_0 9 rfl) (by decide) rfl ?_
      refine st_iconst C.cx (v := 1) (dk DL_plan_0 10 rfl) (by decide) ?_
      exact Rr _ _ _ _ _ _ _ _ (Nat.le_of_ble_eq_true rfl) (Nat.le_of_ble_eq_true rfl) (dk DL_plan_0 11 rfl) (.inr (.inl ⟨_, rfl, rfl, rfl, rfl⟩)) rfl ⟨rfl, Or.inr (Or.inl ⟨rfl, h_1, rfl⟩)⟩
    · refine ⟨17, hd_L_plan_xIA, fun q9 => ?_⟩
      simp only [put_cons, put_nil, List.set_cons_zero, List.set_cons_succ]
      refine st_astore C.cx (dk DL_plan_0 12 rfl) (by decide) rfl ?_
      refine st_iconst C.cx (v := 2) (dk DL_plan_0 13 rfl) (by decide) ?_
      exact Rr _ _ _ _ _ _ _ _ (Nat.le_of_ble_eq_true rfl) (Nat.le_of_ble_eq_true rfl) (dk DL_plan_0 14 rfl) (.inr (.inl ⟨_, rfl, rfl, rfl, rfl⟩)) rfl ⟨rfl, Or.inr (Or.inr (⟨rfl, h_1, h_2, rfl⟩))⟩
  · obtain ⟨rfl, j, i, h_1, h_2, h_3, h_4, rfl, zz9, rc9, en9, sn9, nd9, ln9, rfl⟩ := hq9
    simp only [put_cons, put_nil, List.set_cons_zero, List.set_cons_succ]
    refine st_i2l C.cx (dk DL_plan_0 6 rfl) ?_
    refine st_last C.cx (dk DL_plan_0 7 rfl) 9 rfl (by unfold vp_in; decide) ?_
    refine st_goto C.cx (tgt := 21) (dk DL_plan_0 8 rfl) (by decide) ?_
    refine st_iconst C.cx (v := 0) (dk DL_plan_0 15 rfl) (by decide) ?_
    exact Rr _ _ _ _ _ _ _ _ (Nat.le_of_ble_eq_true rfl) (Nat.le_of_ble_eq_true rfl) (dk DL_plan_0 16 rfl) (.inr (.inl ⟨_, rfl, rfl, rfl, rfl⟩)) rfl ⟨rfl, Or.inl ⟨j, i, h_1, h_2, h_3, h_4, rfl, zz9, rc9, en9, sn9, nd9, ln9, rfl⟩⟩
set_option maxHeartbeats 4000000 in
set_option maxRecDepth 100000 in
theorem kw_count (l : Launch) (G : wG) (hlt : l.stackTraces = false) {K p q1 q2 o v v1 t t1 t2 t3 t4 y : Nat} {s : mS} {ns lk ld : Nat → Int32} {zz rc : Int32} {en : Nat → Int32} {sn : Nat → Int64} {nd ln : Nat → Int32} {nx sz : Int32} {k : Nat} {x : Int32} {e : Nat} {og : Nat → Int64} (hC : CRep s ns lk ld) (hsz : sz = nI k) : ConH l G yL_count cL_count 4 (some .int) hh_L_count 7 1 6 [.ref K, .int x, .ref e] [(K, ob 4 (kF p o v t y)), (p, ob 0 (cR q1 q2 ns)), (q1, aI G 15 lk), (q2, aI G 16 ld), (v, ob 1 (vF v1 nx sz)), (t, ob 2 (sF t1 t2 t3 t4 zz rc)), (t1, aI G 4624 en), (t2, aJ G 256 sn), (t3, aI G 16 nd), (t4, aI G 16 ln), (e, aJ G 1 og)] (fun r w1 w2 => w2 = [] ∧ ((∃ i, i ≤ 6 ∧ x = nI i ∧ r = some (.int 0) ∧ ∃ (zz9 rc9 : Int32) (en9 : Nat → Int32) (sn9 : Nat → Int64) (nd9 ln9 : Nat → Int32), w1 = [(K, ob 4 (kF p o v t y)), (p, ob 0 (cR q1 q2 ns)), (q1, aI G 15 lk), (q2, aI G 16 ld), (v, ob 1 (vF v1 nx sz)), (t, ob 2 (sF t1 t2 t3 t4 zz9 rc9)), (t1, aI G 4624 en9), (t2, aJ G 256 sn9), (t3, aI G 16 nd9), (t4, aI G 16 ln9), (e, aJ G 1 (vp_updL og 0 (Int32.toInt64 (coI s k i))))]) ∨ (r = some (.int 1) ∧ ¬ isN x 6 ∧ w1 = [(K, ob 4 (kF p o v t y)), (p, ob 0 (cR q1 q2 ns)), (q1, aI G 15 lk), (q2, aI G 16 ld), (v, ob 1 (vF v1 nx sz)), (t, ob 2 (sF t1 t2 t3 t4 zz rc)), (t1, aI G 4624 en), (t2, aJ G 256 sn), (t3, aI G 16 nd), (t4, aI G 16 ln), (e, aJ G 1 og)]))) := by
  refine ConH.mk (by decide +kernel) (Nat.le_of_ble_eq_true rfl) (fun P C Rr => ?_)
  refine st_aload_n C.cx (dk DL_count_0 0 rfl) rfl ?_
  refine st_iconst C.cx (v := 0) (dk DL_count_0 1 rfl) (by decide) ?_
  refine st_aload_n C.cx (dk DL_count_0 2 rfl) rfl ?_
  refine st_iload_n C.cx (dk DL_count_0 3 rfl) rfl ?_
  refine st_callX C (k_X5_count l G hlt hC hsz) mf_X5_count mi_X5_count mq_RL_58 (dk DL_count_0 4 rfl) [0, 1, 2, 3, 4, 5, 6, 7, 8, 9] rfl rfl rfl rfl (Nat.le_of_ble_eq_true rfl) rfl rfl ⟨Nat.le_of_ble_eq_true rfl, Nat.le_of_ble_eq_true rfl⟩ ⟨Nat.le_of_ble_eq_true rfl, Nat.le_of_ble_eq_true rfl⟩ (fun E w9 hq9 => ?_) (fun r9 w9 v9 hq9 => ?_)
  · rcases hq9 with ⟨rfl, h_1, rfl⟩
    refine ⟨12, hd_L_count_xIA, fun q9 => ?_⟩
    simp only [put_cons, put_nil, List.set_cons_zero, List.set_cons_succ]
    refine st_astore_n C.cx (dk DL_count_0 8 rfl) (by decide) rfl ?_
    refine st_iconst C.cx (v := 1) (dk DL_count_0 9 rfl) (by decide) ?_
    exact Rr _ _ _ _ _ _ _ _ (Nat.le_of_ble_eq_true rfl) (Nat.le_of_ble_eq_true rfl) (dk DL_count_0 10 rfl) (.inr (.inl ⟨_, rfl, rfl, rfl, rfl⟩)) rfl ⟨rfl, Or.inr (⟨rfl, h_1, rfl⟩)⟩
  · obtain ⟨rfl, i, h_1, h_2, rfl, zz9, rc9, en9, sn9, nd9, ln9, rfl⟩ := hq9
    simp only [put_cons, put_nil, List.set_cons_zero, List.set_cons_succ]
    refine st_i2l C.cx (dk DL_count_0 5 rfl) ?_
    refine st_last C.cx (dk DL_count_0 6 rfl) 10 rfl (by unfold vp_in; decide) ?_
    refine st_goto C.cx (tgt := 15) (dk DL_count_0 7 rfl) (by decide) ?_
    refine st_iconst C.cx (v := 0) (dk DL_count_0 11 rfl) (by decide) ?_
    exact Rr _ _ _ _ _ _ _ _ (Nat.le_of_ble_eq_true rfl) (Nat.le_of_ble_eq_true rfl) (dk DL_count_0 12 rfl) (.inr (.inl ⟨_, rfl, rfl, rfl, rfl⟩)) rfl ⟨rfl, Or.inl ⟨i, h_1, h_2, rfl, zz9, rc9, en9, sn9, nd9, ln9, rfl⟩⟩
set_option maxHeartbeats 4000000 in
set_option maxRecDepth 100000 in
theorem kw_refusal (l : Launch) (G : wG) (hlt : l.stackTraces = false) {K p q1 q2 o v t y : Nat} {s : mS} {ns lk ld : Nat → Int32} {x : Int32} {e : Nat} {og : Nat → Int64} (hC : CRep s ns lk ld) : ConH l G yL_refusal cL_refusal 4 (some .int) hh_L_refusal 7 1 6 [.ref K, .int x, .ref e] [(K, ob 4 (kF p o v t y)), (p, ob 0 (cR q1 q2 ns)), (q1, aI G 15 lk), (q2, aI G 16 ld), (e, aJ G 1 og)] (fun r w1 w2 => w2 = [] ∧ ((∃ st, st ≤ 4 ∧ x = nI st ∧ r = some (.int 0) ∧ w1 = [(K, ob 4 (kF p o v t y)), (p, ob 0 (cR q1 q2 ns)), (q1, aI G 15 lk), (q2, aI G 16 ld), (e, aJ G 1 (vp_updL og 0 (Int32.toInt64 (nI (refN s st)))))]) ∨ (r = some (.int 1) ∧ ¬ isN x 4 ∧ w1 = [(K, ob 4 (kF p o v t y)), (p, ob 0 (cR q1 q2 ns)), (q1, aI G 15 lk), (q2, aI G 16 ld), (e, aJ G 1 og)]))) := by
  refine ConH.mk (by decide +kernel) (Nat.le_of_ble_eq_true rfl) (fun P C Rr => ?_)
  refine st_aload_n C.cx (dk DL_refusal_0 0 rfl) rfl ?_
  refine st_iconst C.cx (v := 0) (dk DL_refusal_0 1 rfl) (by decide) ?_
  refine st_aload_n C.cx (dk DL_refusal_0 2 rfl) rfl ?_
  refine st_iload_n C.cx (dk DL_refusal_0 3 rfl) rfl ?_
  refine st_callX C (k_X5_refusal l G hlt hC) mf_X5_refusal mi_X5_refusal mq_RL_61 (dk DL_refusal_0 4 rfl) [0, 1, 2, 3] rfl rfl rfl rfl (Nat.le_of_ble_eq_true rfl) rfl rfl ⟨Nat.le_of_ble_eq_true rfl, Nat.le_of_ble_eq_true rfl⟩ ⟨Nat.le_of_ble_eq_true rfl, Nat.le_of_ble_eq_true rfl⟩ (fun E w9 hq9 => ?_) (fun r9 w9 v9 hq9 => ?_)
  · rcases hq9 with ⟨rfl, h_1, rfl⟩
    refine ⟨12, hd_L_refusal_xIA, fun q9 => ?_⟩
    simp only [put_cons, put_nil, List.set_cons_zero, List.set_cons_succ]
    refine st_astore_n C.cx (dk DL_refusal_0 8 rfl) (by decide) rfl ?_
    refine st_iconst C.cx (v := 1) (dk DL_refusal_0 9 rfl) (by decide) ?_
    exact Rr _ _ _ _ _ _ _ _ (Nat.le_of_ble_eq_true rfl) (Nat.le_of_ble_eq_true rfl) (dk DL_refusal_0 10 rfl) (.inr (.inl ⟨_, rfl, rfl, rfl, rfl⟩)) rfl ⟨rfl, Or.inr (⟨rfl, h_1, rfl⟩)⟩
  · obtain ⟨rfl, st, h_1, h_2, rfl, rfl⟩ := hq9
    simp only [put_cons, put_nil, List.set_cons_zero, List.set_cons_succ]
    refine st_i2l C.cx (dk DL_refusal_0 5 rfl) ?_
    refine st_last C.cx (dk DL_refusal_0 6 rfl) 4 rfl (by unfold vp_in; decide) ?_
    refine st_goto C.cx (tgt := 15) (dk DL_refusal_0 7 rfl) (by decide) ?_
    refine st_iconst C.cx (v := 0) (dk DL_refusal_0 11 rfl) (by decide) ?_
    exact Rr _ _ _ _ _ _ _ _ (Nat.le_of_ble_eq_true rfl) (Nat.le_of_ble_eq_true rfl) (dk DL_refusal_0 12 rfl) (.inr (.inl ⟨_, rfl, rfl, rfl, rfl⟩)) rfl ⟨rfl, Or.inl ⟨st, h_1, h_2, rfl, rfl⟩⟩
set_option maxHeartbeats 4000000 in
set_option maxRecDepth 100000 in
theorem kw_ifDoor (l : Launch) (G : wG) (hlt : l.stackTraces = false) {K p q1 q2 o o1 o2 v t t1 t2 t3 t4 y : Nat} {s : mS} {ns lk ld : Nat → Int32} {os olk old : Nat → Int32} {zz rc : Int32} {en : Nat → Int32} {sn : Nat → Int64} {nd ln : Nat → Int32} {x z : Int32} {e : Nat} {og : Nat → Int64} (hC : CRep s ns lk ld) : ConH l G yL_ifDoor cL_ifDoor 5 (some .int) hh_L_ifDoor 7 1 6 [.ref K, .int x, .int z, .ref e] [(K, ob 4 (kF p o v t y)), (p, ob 0 (cR q1 q2 ns)), (q1, aI G 15 lk), (q2, aI G 16 ld), (o, ob 0 (cR o1 o2 os)), (o1, aI G 15 olk), (o2, aI G 16 old), (t, ob 2 (sF t1 t2 t3 t4 zz rc)), (t1, aI G 4624 en), (t2, aJ G 256 sn), (t3, aI G 16 nd), (t4, aI G 16 ln), (e, aJ G 1 og)] (fun r w1 w2 => w2 = [] ∧ ((∃ j i, j ≤ 14 ∧ i ≤ 5 ∧ x = nI j ∧ z = nI i ∧ r = some (.int 0) ∧ ∃ (os9 olk9 old9 : Nat → Int32) (zz9 rc9 : Int32) (en9 : Nat → Int32) (sn9 : Nat → Int64) (nd9 ln9 : Nat → Int32), w1 = [(K, ob 4 (kF p o v t y)), (p, ob 0 (cR q1 q2 ns)), (q1, aI G 15 lk), (q2, aI G 16 ld), (o, ob 0 (cR o1 o2 os9)), (o1, aI G 15 olk9), (o2, aI G 16 old9), (t, ob 2 (sF t1 t2 t3 t4 zz9 rc9)), (t1, aI G 4624 en9), (t2, aJ G 256 sn9), (t3, aI G 16 nd9), (t4, aI G 16 ln9), (e, aJ G 1 (vp_updL og 0 (Int32.toInt64 (nI (cnt (fS (updS s (22 + j) i)) 16)))))]) ∨ (r = some (.int 1) ∧ ¬ isN x 14 ∧ w1 = [(K, ob 4 (kF p o v t y)), (p, ob 0 (cR q1 q2 ns)), (q1, aI G 15 lk), (q2, aI G 16 ld), (o, ob 0 (cR o1 o2 os)), (o1, aI G 15 olk), (o2, aI G 16 old), (t, ob 2 (sF t1 t2 t3 t4 zz rc)), (t1, aI G 4624 en), (t2, aJ G 256 sn), (t3, aI G 16 nd), (t4, aI G 16 ln), (e, aJ G 1 og)]) ∨ (r = some (.int 2) ∧ isN x 14 ∧ ¬ isN z 5 ∧ w1 = [(K, ob 4 (kF p o v t y)), (p, ob 0 (cR q1 q2 ns)), (q1, aI G 15 lk), (q2, aI G 16 ld), (o, ob 0 (cR o1 o2 os)), (o1, aI G 15 olk), (o2, aI G 16 old), (t, ob 2 (sF t1 t2 t3 t4 zz rc)), (t1, aI G 4624 en), (t2, aJ G 256 sn), (t3, aI G 16 nd), (t4, aI G 16 ln), (e, aJ G 1 og)]))) := by
  refine ConH.mk (by decide +kernel) (Nat.le_of_ble_eq_true rfl) (fun P C Rr => ?_)
  refine st_aload_n C.cx (dk DL_ifDoor_0 0 rfl) rfl ?_
  refine st_iconst C.cx (v := 0) (dk DL_ifDoor_0 1 rfl) (by decide) ?_
  refine st_aload_n C.cx (dk DL_ifDoor_0 2 rfl) rfl ?_
  refine st_iload_n C.cx (dk DL_ifDoor_0 3 rfl) rfl ?_
  refine st_iload_n C.cx (dk DL_ifDoor_0 4 rfl) rfl ?_
  refine st_callX C (k_X5_ifDoor l G hlt hC) mf_X5_ifDoor mi_X5_ifDoor mq_RL_64 (dk DL_ifDoor_0 5 rfl) [0, 1, 2, 3, 4, 5, 6, 7, 8, 9, 10, 11] rfl rfl rfl rfl (Nat.le_of_ble_eq_true rfl) rfl rfl ⟨Nat.le_of_ble_eq_true rfl, Nat.le_of_ble_eq_true rfl⟩ ⟨Nat.le_of_ble_eq_true rfl, Nat.le_of_ble_eq_true rfl⟩ (fun E w9 hq9 => ?_) (fun r9 w9 v9 hq9 => ?_)
  · rcases hq9 with ⟨rfl, h_1, rfl⟩ | ⟨rfl, h_1, h_2, rfl⟩
    · refine ⟨13, hd_L_ifDoor_xIO, fun q9 => ?_⟩
      simp only [put_cons, put_nil, List.set_cons_zero, List.set_cons_succ]
      refine st_astore C.cx (dk DL_ifDoor_0 9 rfl) (by decide) rfl ?_
      refine st_iconst C.cx (v := 1) (dk DL_ifDoor_0 10 rfl) (by decide) ?_
      exact Rr _ _ _ _ _ _ _ _ (Nat.le_of_ble_eq_true rfl) (Nat.le_of_ble_eq_true rfl) (dk DL_ifDoor_0 11 rfl) (.inr (.inl ⟨_, rfl, rfl, rfl, rfl⟩)) rfl ⟨rfl, Or.inr (Or.inl ⟨rfl, h_1, rfl⟩)⟩
    · refine ⟨17, hd_L_ifDoor_xIA, fun q9 => ?_⟩
      simp only [put_cons, put_nil, List.set_cons_zero, List.set_cons_succ]
      refine st_astore C.cx (dk DL_ifDoor_0 12 rfl) (by decide) rfl ?_
      refine st_iconst C.cx (v := 2) (dk DL_ifDoor_0 13 rfl) (by decide) ?_
      exact Rr _ _ _ _ _ _ _ _ (Nat.le_of_ble_eq_true rfl) (Nat.le_of_ble_eq_true rfl) (dk DL_ifDoor_0 14 rfl) (.inr (.inl ⟨_, rfl, rfl, rfl, rfl⟩)) rfl ⟨rfl, Or.inr (Or.inr (⟨rfl, h_1, h_2, rfl⟩))⟩
  · obtain ⟨rfl, j, i, h_1, h_2, h_3, h_4, rfl, os9, olk9, old9, zz9, rc9, en9, sn9, nd9, ln9, rfl⟩ := hq9
    simp only [put_cons, put_nil, List.set_cons_zero, List.set_cons_succ]
    refine st_i2l C.cx (dk DL_ifDoor_0 6 rfl) ?_
    refine st_last C.cx (dk DL_ifDoor_0 7 rfl) 12 rfl (by unfold vp_in; decide) ?_
    refine st_goto C.cx (tgt := 21) (dk DL_ifDoor_0 8 rfl) (by decide) ?_
    refine st_iconst C.cx (v := 0) (dk DL_ifDoor_0 15 rfl) (by decide) ?_
    exact Rr _ _ _ _ _ _ _ _ (Nat.le_of_ble_eq_true rfl) (Nat.le_of_ble_eq_true rfl) (dk DL_ifDoor_0 16 rfl) (.inr (.inl ⟨_, rfl, rfl, rfl, rfl⟩)) rfl ⟨rfl, Or.inl ⟨j, i, h_1, h_2, h_3, h_4, rfl, os9, olk9, old9, zz9, rc9, en9, sn9, nd9, ln9, rfl⟩⟩
set_option maxHeartbeats 4000000 in
set_option maxRecDepth 100000 in
theorem kw_without (l : Launch) (G : wG) (hlt : l.stackTraces = false) {K p q1 q2 o o1 o2 v t t1 t2 t3 t4 y : Nat} {s : mS} {ns lk ld : Nat → Int32} {os olk old : Nat → Int32} {zz rc : Int32} {en : Nat → Int32} {sn : Nat → Int64} {nd ln : Nat → Int32} {x : Int32} {e : Nat} {og : Nat → Int64} (hC : CRep s ns lk ld) : ConH l G yL_without cL_without 4 (some .int) hh_L_without 7 1 6 [.ref K, .int x, .ref e] [(K, ob 4 (kF p o v t y)), (p, ob 0 (cR q1 q2 ns)), (q1, aI G 15 lk), (q2, aI G 16 ld), (o, ob 0 (cR o1 o2 os)), (o1, aI G 15 olk), (o2, aI G 16 old), (t, ob 2 (sF t1 t2 t3 t4 zz rc)), (t1, aI G 4624 en), (t2, aJ G 256 sn), (t3, aI G 16 nd), (t4, aI G 16 ln), (e, aJ G 1 og)] (fun r w1 w2 => w2 = [] ∧ ((∃ j, j ≤ 15 ∧ x = nI j ∧ r = some (.int 0) ∧ ∃ (os9 olk9 old9 : Nat → Int32) (zz9 rc9 : Int32) (en9 : Nat → Int32) (sn9 : Nat → Int64) (nd9 ln9 : Nat → Int32), w1 = [(K, ob 4 (kF p o v t y)), (p, ob 0 (cR q1 q2 ns)), (q1, aI G 15 lk), (q2, aI G 16 ld), (o, ob 0 (cR o1 o2 os9)), (o1, aI G 15 olk9), (o2, aI G 16 old9), (t, ob 2 (sF t1 t2 t3 t4 zz9 rc9)), (t1, aI G 4624 en9), (t2, aJ G 256 sn9), (t3, aI G 16 nd9), (t4, aI G 16 ln9), (e, aJ G 1 (vp_updL og 0 (Int32.toInt64 (nI (cnt (fS (updS s (6 + j) 0)) 16)))))]) ∨ (r = some (.int 1) ∧ ¬ isN x 15 ∧ w1 = [(K, ob 4 (kF p o v t y)), (p, ob 0 (cR q1 q2 ns)), (q1, aI G 15 lk), (q2, aI G 16 ld), (o, ob 0 (cR o1 o2 os)), (o1, aI G 15 olk), (o2, aI G 16 old), (t, ob 2 (sF t1 t2 t3 t4 zz rc)), (t1, aI G 4624 en), (t2, aJ G 256 sn), (t3, aI G 16 nd), (t4, aI G 16 ln), (e, aJ G 1 og)]))) := by
  refine ConH.mk (by decide +kernel) (Nat.le_of_ble_eq_true rfl) (fun P C Rr => ?_)
  refine st_aload_n C.cx (dk DL_without_0 0 rfl) rfl ?_
  refine st_iconst C.cx (v := 0) (dk DL_without_0 1 rfl) (by decide) ?_
  refine st_aload_n C.cx (dk DL_without_0 2 rfl) rfl ?_
  refine st_iload_n C.cx (dk DL_without_0 3 rfl) rfl ?_
  refine st_callX C (k_X5_without l G hlt hC) mf_X5_without mi_X5_without mq_RL_67 (dk DL_without_0 4 rfl) [0, 1, 2, 3, 4, 5, 6, 7, 8, 9, 10, 11] rfl rfl rfl rfl (Nat.le_of_ble_eq_true rfl) rfl rfl ⟨Nat.le_of_ble_eq_true rfl, Nat.le_of_ble_eq_true rfl⟩ ⟨Nat.le_of_ble_eq_true rfl, Nat.le_of_ble_eq_true rfl⟩ (fun E w9 hq9 => ?_) (fun r9 w9 v9 hq9 => ?_)
  · rcases hq9 with ⟨rfl, h_1, rfl⟩
    refine ⟨12, hd_L_without_xIO, fun q9 => ?_⟩
    simp only [put_cons, put_nil, List.set_cons_zero, List.set_cons_succ]
    refine st_astore_n C.cx (dk DL_without_0 8 rfl) (by decide) rfl ?_
    refine st_iconst C.cx (v := 1) (dk DL_without_0 9 rfl) (by decide) ?_
    exact Rr _ _ _ _ _ _ _ _ (Nat.le_of_ble_eq_true rfl) (Nat.le_of_ble_eq_true rfl) (dk DL_without_0 10 rfl) (.inr (.inl ⟨_, rfl, rfl, rfl, rfl⟩)) rfl ⟨rfl, Or.inr (⟨rfl, h_1, rfl⟩)⟩
  · obtain ⟨rfl, j, h_1, h_2, rfl, os9, olk9, old9, zz9, rc9, en9, sn9, nd9, ln9, rfl⟩ := hq9
    simp only [put_cons, put_nil, List.set_cons_zero, List.set_cons_succ]
    refine st_i2l C.cx (dk DL_without_0 5 rfl) ?_
    refine st_last C.cx (dk DL_without_0 6 rfl) 12 rfl (by unfold vp_in; decide) ?_
    refine st_goto C.cx (tgt := 15) (dk DL_without_0 7 rfl) (by decide) ?_
    refine st_iconst C.cx (v := 0) (dk DL_without_0 11 rfl) (by decide) ?_
    exact Rr _ _ _ _ _ _ _ _ (Nat.le_of_ble_eq_true rfl) (Nat.le_of_ble_eq_true rfl) (dk DL_without_0 12 rfl) (.inr (.inl ⟨_, rfl, rfl, rfl, rfl⟩)) rfl ⟨rfl, Or.inl ⟨j, h_1, h_2, rfl, os9, olk9, old9, zz9, rc9, en9, sn9, nd9, ln9, rfl⟩⟩
