/-! the landed class: door, key, ladder, fold, stand, step -/
theorem hC_nil {ws : va_W} : ([] : List Nat).map (fun i => ws[i]?) = ([] : va_W).map some := rfl
theorem hC_cons {ws wc : va_W} {i : Nat} {is : List Nat} {e : Nat × va_E} (h : ws[i]? = some e) (t : is.map (fun i => ws[i]?) = wc.map some) : (i :: is).map (fun i => ws[i]?) = (e :: wc).map some := by rw [List.map_cons, List.map_cons, h, t]
theorem SvR.push2 {k : Nat} {p : Nat → mS} {nx sz : Int32} {rs rl rd : Nat → Nat → Int32} (h : SvR k p nx sz rs rl rd) {s : mS} {ns lk3 ld3 : Nat → Int32} (hc : CRep s ns lk3 ld3) {j : Nat} (hj : j < 6) (hx : nx = nI j) : SvR (svK k) (svP s k p) (nx + 1 - (nx + 1) / 6 * 6) (rMin (sz + 1) 6) (va_up rs j ns) (va_up rl j lk3) (va_up rd j ld3) := by
  obtain ⟨j9, a, b, c⟩ := h.push hc
  have e : j9 = j := (nI_eq (by omega) (by omega)).mp (b.symm.trans hx)
  subst e
  exact c
theorem isR_le {x lo hi : Int32} {a n : Nat} (ha : a < 2 ^ 31) (hn : n < 2 ^ 31) (hl : lo = nI a) (hh : hi = nI n) (h1 : ¬ x < lo) (h2 : x ≤ hi) : isR x a n := isR_of ha hn hl hh h1 (Int32.not_lt.mpr h2)
theorem isR_nle {x hi : Int32} {a n : Nat} (hn : n < 2 ^ 31) (hh : hi = nI n) (h : ¬ x ≤ hi) : ¬ isR x a n := isR_hi hn hh (Int32.not_le.mp h)
set_option maxHeartbeats 4000000 in
set_option maxRecDepth 100000 in
theorem k_X5_door (l : Launch) (G : wG) (hlt : l.stackTraces = false) {K p q1 q2 o v v1 t y : Nat} {s : mS} {ns lk ld : Nat → Int32} {u u1 u2 : Nat → Nat} {nx sz : Int32} {rs rl rd : Nat → Nat → Int32} {k : Nat} {pp : Nat → mS} {x z : Int32} (hC : CRep s ns lk ld) (hSv : SvR k pp nx sz rs rl rd) : ConX l G yX5_door cX5_door 4 (some .int) 6 1 6 [.ref K, .int x, .int z] [(K, ob 4 (kF p o v t y)), (p, ob 0 (cR q1 q2 ns)), (q1, aI G 15 lk), (q2, aI G 16 ld), (v, ob 1 (vF v1 nx sz)), (v1, aQ G 6 (fun k => some (u k))), (u 0, ob 0 (cR (u1 0) (u2 0) (rs 0))), (u1 0, aI G 15 (rl 0)), (u2 0, aI G 16 (rd 0)), (u 1, ob 0 (cR (u1 1) (u2 1) (rs 1))), (u1 1, aI G 15 (rl 1)), (u2 1, aI G 16 (rd 1)), (u 2, ob 0 (cR (u1 2) (u2 2) (rs 2))), (u1 2, aI G 15 (rl 2)), (u2 2, aI G 16 (rd 2)), (u 3, ob 0 (cR (u1 3) (u2 3) (rs 3))), (u1 3, aI G 15 (rl 3)), (u2 3, aI G 16 (rd 3)), (u 4, ob 0 (cR (u1 4) (u2 4) (rs 4))), (u1 4, aI G 15 (rl 4)), (u2 4, aI G 16 (rd 4)), (u 5, ob 0 (cR (u1 5) (u2 5) (rs 5))), (u1 5, aI G 15 (rl 5)), (u2 5, aI G 16 (rd 5))] (fun r w1 w2 => w2 = [] ∧ (∃ j i, j ≤ 14 ∧ i ≤ 5 ∧ x = nI j ∧ z = nI i ∧ r = some (.int (nI (s (22 + j)))) ∧ ∃ (ns9 lk9 ld9 : Nat → Int32) (nx9 sz9 : Int32) (rs9 rl9 rd9 : Nat → Nat → Int32), CRep (updS s (22 + j) i) ns9 lk9 ld9 ∧ SvR (svK k) (svP s k pp) nx9 sz9 rs9 rl9 rd9 ∧ w1 = [(K, ob 4 (kF p o v t y)), (p, ob 0 (cR q1 q2 ns9)), (q1, aI G 15 lk9), (q2, aI G 16 ld9), (v, ob 1 (vF v1 nx9 sz9)), (v1, aQ G 6 (fun k => some (u k))), (u 0, ob 0 (cR (u1 0) (u2 0) (rs9 0))), (u1 0, aI G 15 (rl9 0)), (u2 0, aI G 16 (rd9 0)), (u 1, ob 0 (cR (u1 1) (u2 1) (rs9 1))), (u1 1, aI G 15 (rl9 1)), (u2 1, aI G 16 (rd9 1)), (u 2, ob 0 (cR (u1 2) (u2 2) (rs9 2))), (u1 2, aI G 15 (rl9 2)), (u2 2, aI G 16 (rd9 2)), (u 3, ob 0 (cR (u1 3) (u2 3) (rs9 3))), (u1 3, aI G 15 (rl9 3)), (u2 3, aI G 16 (rd9 3)), (u 4, ob 0 (cR (u1 4) (u2 4) (rs9 4))), (u1 4, aI G 15 (rl9 4)), (u2 4, aI G 16 (rd9 4)), (u 5, ob 0 (cR (u1 5) (u2 5) (rs9 5))), (u1 5, aI G 15 (rl9 5)), (u2 5, aI G 16 (rd9 5))])) (fun E w1 => (E = xIO ∧ ¬ isN x 14 ∧ w1 = [(K, ob 4 (kF p o v t y)), (p, ob 0 (cR q1 q2 ns)), (q1, aI G 15 lk), (q2, aI G 16 ld), (v, ob 1 (vF v1 nx sz)), (v1, aQ G 6 (fun k => some (u k))), (u 0, ob 0 (cR (u1 0) (u2 0) (rs 0))), (u1 0, aI G 15 (rl 0)), (u2 0, aI G 16 (rd 0)), (u 1, ob 0 (cR (u1 1) (u2 1) (rs 1))), (u1 1, aI G 15 (rl 1)), (u2 1, aI G 16 (rd 1)), (u 2, ob 0 (cR (u1 2) (u2 2) (rs 2))), (u1 2, aI G 15 (rl 2)), (u2 2, aI G 16 (rd 2)), (u 3, ob 0 (cR (u1 3) (u2 3) (rs 3))), (u1 3, aI G 15 (rl 3)), (u2 3, aI G 16 (rd 3)), (u 4, ob 0 (cR (u1 4) (u2 4) (rs 4))), (u1 4, aI G 15 (rl 4)), (u2 4, aI G 16 (rd 4)), (u 5, ob 0 (cR (u1 5) (u2 5) (rs 5))), (u1 5, aI G 15 (rl 5)), (u2 5, aI G 16 (rd 5))]) ∨ (E = xIA ∧ isN x 14 ∧ ¬ isN z 5 ∧ w1 = [(K, ob 4 (kF p o v t y)), (p, ob 0 (cR q1 q2 ns)), (q1, aI G 15 lk), (q2, aI G 16 ld), (v, ob 1 (vF v1 nx sz)), (v1, aQ G 6 (fun k => some (u k))), (u 0, ob 0 (cR (u1 0) (u2 0) (rs 0))), (u1 0, aI G 15 (rl 0)), (u2 0, aI G 16 (rd 0)), (u 1, ob 0 (cR (u1 1) (u2 1) (rs 1))), (u1 1, aI G 15 (rl 1)), (u2 1, aI G 16 (rd 1)), (u 2, ob 0 (cR (u1 2) (u2 2) (rs 2))), (u1 2, aI G 15 (rl 2)), (u2 2, aI G 16 (rd 2)), (u 3, ob 0 (cR (u1 3) (u2 3) (rs 3))), (u1 3, aI G 15 (rl 3)), (u2 3, aI G 16 (rd 3)), (u 4, ob 0 (cR (u1 4) (u2 4) (rs 4))), (u1 4, aI G 15 (rl 4)), (u2 4, aI G 16 (rd 4)), (u 5, ob 0 (cR (u1 5) (u2 5) (rs 5))), (u1 5, aI G 15 (rl 5)), (u2 5, aI G 16 (rd 5))])) := by
  refine ConX.mk hlt (Nat.le_of_ble_eq_true rfl) (by decide +kernel) (Nat.le_of_ble_eq_true rfl) (fun P C Rr Tr => ?_)
  refine st_iload_n C (dk DX5_door_0 0 rfl) rfl ?_
  refine st_cS C (k_X5_isDoor l G) mf_X5_isDoor ms_X5_isDoor ml_RX5_40 (dk DX5_door_0 1 rfl) [] rfl rfl rfl rfl (Nat.le_of_ble_eq_true rfl) ⟨Nat.le_of_ble_eq_true rfl, Nat.le_of_ble_eq_true rfl⟩ ⟨Nat.zero_le _, Nat.zero_le _⟩ (fun r9 w9 hq9 => ?_)
  obtain ⟨rfl, rfl⟩ := hq9
  show P _ _ _ _ _ [_, _, _, _, _, _, _, _, _, _, _, _, _, _, _, _, _, _, _, _, _, _, _, _]
  refine st_if_ne C (tgt := 17) (dk DX5_door_0 2 rfl) (by decide) (fun c_4 => ?_) (fun c_4 => ?_)
  · refine st_iload_n C (dk DX5_door_0 8 rfl) rfl ?_
    refine st_cS C (k_X5_isBow l G) mf_X5_isBow ms_X5_isBow ml_RX5_51 (dk DX5_door_0 9 rfl) [] rfl rfl rfl rfl (Nat.le_of_ble_eq_true rfl) ⟨Nat.le_of_ble_eq_true rfl, Nat.le_of_ble_eq_true rfl⟩ ⟨Nat.zero_le _, Nat.zero_le _⟩ (fun r9 w9 hq9 => ?_)
    obtain ⟨rfl, rfl⟩ := hq9
    show P _ _ _ _ _ [_, _, _, _, _, _, _, _, _, _, _, _, _, _, _, _, _, _, _, _, _, _, _, _]
    refine st_if_ne C (tgt := 34) (dk DX5_door_0 10 rfl) (by decide) (fun c_21 => ?_) (fun c_21 => ?_)
    · obtain ⟨j, hj, rfl⟩ := rIn_f (n := 14) (by decide) rfl c_4
      obtain ⟨i, hi, rfl⟩ := rBowOk_f c_21
      obtain ⟨j9, hj9, hnx9, -⟩ := id hSv
      refine st_aload_n C (dk DX5_door_0 16 rfl) rfl ?_
      refine st_get C fl_RX5_22 (dk DX5_door_0 17 rfl) 0 rfl rfl ?_
      refine st_aload_n C (dk DX5_door_0 18 rfl) rfl ?_
      refine st_get C fl_RX5_10 (dk DX5_door_0 19 rfl) 0 rfl rfl ?_
      refine st_cV C (k_X2_push l G (v := v) (v1 := v1) (nx := nx) (sz := sz) (u := u) (u1 := u1) (u2 := u2) (rs := rs) (rl := rl) (rd := rd) (p := p) (q1 := q1) (q2 := q2) (ns := ns) (lk := lk) (ld := ld) hnx9 hj9) mf_X2_push mi_X2_push ml_RX5_59 (dk DX5_door_0 20 rfl) [4, 5, 6, 7, 8, 9, 10, 11, 12, 13, 14, 15, 16, 17, 18, 19, 20, 21, 22, 23, 1, 2, 3] (hC_cons rfl (hC_cons rfl (hC_cons rfl (hC_cons rfl (hC_cons rfl (hC_cons rfl (hC_cons rfl (hC_cons rfl (hC_cons rfl (hC_cons rfl (hC_cons rfl (hC_cons rfl (hC_cons rfl (hC_cons rfl (hC_cons rfl (hC_cons rfl (hC_cons rfl (hC_cons rfl (hC_cons rfl (hC_cons rfl (hC_cons rfl (hC_cons rfl (hC_cons rfl (hC_nil)))))))))))))))))))))))) (by decide +kernel) rfl rfl (Nat.le_of_ble_eq_true rfl) rfl rfl ⟨Nat.le_of_ble_eq_true rfl, Nat.le_of_ble_eq_true rfl⟩ ⟨Nat.zero_le _, Nat.zero_le _⟩ (fun r9 w9 hq9 => ?_)
      obtain ⟨rfl, lk42, ld42, hlk42, hld42, rfl⟩ := hq9
      simp only [put_cons, put_nil, List.set_cons_zero, List.set_cons_succ]
      refine st_aload_n C (dk DX5_door_0 21 rfl) rfl ?_
      refine st_get C fl_RX5_10 (dk DX5_door_0 22 rfl) 0 rfl rfl ?_
      refine st_iload_n C (dk DX5_door_0 23 rfl) rfl ?_
      refine st_cV C (k_X1_lockBehind l G) mf_X1_lockBehind mi_X1_lockBehind ml_RX5_63 (dk DX5_door_0 24 rfl) [1, 2] rfl rfl rfl rfl (Nat.le_of_ble_eq_true rfl) rfl rfl ⟨Nat.le_of_ble_eq_true rfl, Nat.le_of_ble_eq_true rfl⟩ ⟨Nat.zero_le _, Nat.zero_le _⟩ (fun r9 w9 hq9 => ?_)
      obtain ⟨rfl, rfl⟩ := hq9
      show P _ _ _ _ _ [_, _, _, _, _, _, _, _, _, _, _, _, _, _, _, _, _, _, _, _, _, _, _, _]
      refine st_istore_n C (dk DX5_door_0 25 rfl) (by decide) rfl ?_
      refine st_aload_n C (dk DX5_door_0 26 rfl) rfl ?_
      refine st_get C fl_RX5_10 (dk DX5_door_0 27 rfl) 0 rfl rfl ?_
      refine st_iload_n C (dk DX5_door_0 28 rfl) rfl ?_
      refine st_iload_n C (dk DX5_door_0 29 rfl) rfl ?_
      refine st_cV C (k_X1_setLock l G) mf_X1_setLock mi_X1_setLock ml_RX5_67 (dk DX5_door_0 30 rfl) [1, 2] rfl rfl rfl rfl (Nat.le_of_ble_eq_true rfl) rfl rfl ⟨Nat.le_of_ble_eq_true rfl, Nat.le_of_ble_eq_true rfl⟩ ⟨Nat.zero_le _, Nat.zero_le _⟩ (fun r9 w9 hq9 => ?_)
      obtain ⟨rfl, rfl⟩ := hq9
      show P _ _ _ _ _ [_, _, _, _, _, _, _, _, _, _, _, _, _, _, _, _, _, _, _, _, _, _, _, _]
      refine st_iload_n C (dk DX5_door_0 31 rfl) rfl ?_
      exact Rr 0 0 _ _ _ _ _ _ (Nat.zero_le _) (Nat.zero_le _) (dk DX5_door_0 32 rfl) (.inr (.inl ⟨_, rfl, rfl, rfl, rfl⟩)) rfl ⟨rfl, ⟨j, i, hj, hi, rfl, rfl, by rw [hC.lock (by omega), if_pos (by omega)], ns, _, _, _, _, va_up rs j9 ns, va_up rl j9 lk42, va_up rd j9 ld42, hC.setLock hj hi, hSv.push2 (hC.copy hlk42 hld42) hj9 hnx9, rfl⟩⟩
    · exact Tr _ _ _ _ _ _ _ _ _ _ _ tf_54 sr_56 (Nat.le_of_ble_eq_true rfl) (Nat.le_of_ble_eq_true rfl) (dk DX5_door_0 11 rfl) (dk DX5_door_0 12 rfl) (dk DX5_door_0 13 rfl) (dk DX5_door_0 14 rfl) (dk DX5_door_0 15 rfl) (Nat.le_of_ble_eq_true rfl) rfl (Or.inr ⟨rfl, rIn_f (n := 14) (by decide) rfl c_4, rBowOk_t c_21, rfl⟩)
  · exact Tr _ _ _ _ _ _ _ _ _ _ _ tf_44 sr_46 (Nat.le_of_ble_eq_true rfl) (Nat.le_of_ble_eq_true rfl) (dk DX5_door_0 3 rfl) (dk DX5_door_0 4 rfl) (dk DX5_door_0 5 rfl) (dk DX5_door_0 6 rfl) (dk DX5_door_0 7 rfl) (Nat.le_of_ble_eq_true rfl) rfl (Or.inl ⟨rfl, rIn_t (n := 14) (by decide) rfl c_4, rfl⟩)
set_option maxHeartbeats 4000000 in
set_option maxRecDepth 100000 in
theorem k_X5_key (l : Launch) (G : wG) (hlt : l.stackTraces = false) {K p q1 q2 o v v1 t y : Nat} {s : mS} {ns lk ld : Nat → Int32} {u u1 u2 : Nat → Nat} {nx sz : Int32} {rs rl rd : Nat → Nat → Int32} {k : Nat} {pp : Nat → mS} {x z : Int32} (hC : CRep s ns lk ld) (hSv : SvR k pp nx sz rs rl rd) : ConX l G yX5_key cX5_key 4 (some .int) 6 1 6 [.ref K, .int x, .int z] [(K, ob 4 (kF p o v t y)), (p, ob 0 (cR q1 q2 ns)), (q1, aI G 15 lk), (q2, aI G 16 ld), (v, ob 1 (vF v1 nx sz)), (v1, aQ G 6 (fun k => some (u k))), (u 0, ob 0 (cR (u1 0) (u2 0) (rs 0))), (u1 0, aI G 15 (rl 0)), (u2 0, aI G 16 (rd 0)), (u 1, ob 0 (cR (u1 1) (u2 1) (rs 1))), (u1 1, aI G 15 (rl 1)), (u2 1, aI G 16 (rd 1)), (u 2, ob 0 (cR (u1 2) (u2 2) (rs 2))), (u1 2, aI G 15 (rl 2)), (u2 2, aI G 16 (rd 2)), (u 3, ob 0 (cR (u1 3) (u2 3) (rs 3))), (u1 3, aI G 15 (rl 3)), (u2 3, aI G 16 (rd 3)), (u 4, ob 0 (cR (u1 4) (u2 4) (rs 4))), (u1 4, aI G 15 (rl 4)), (u2 4, aI G 16 (rd 4)), (u 5, ob 0 (cR (u1 5) (u2 5) (rs 5))), (u1 5, aI G 15 (rl 5)), (u2 5, aI G 16 (rd 5))] (fun r w1 w2 => w2 = [] ∧ (∃ j i, j ≤ 15 ∧ i ≤ 5 ∧ x = nI j ∧ z = nI i ∧ ¬ (0 < i ∧ s (6 + j) = 0 ∧ kcN s 16 = 2) ∧ r = some (.int (nI (s (6 + j)))) ∧ ∃ (ns9 lk9 ld9 : Nat → Int32) (nx9 sz9 : Int32) (rs9 rl9 rd9 : Nat → Nat → Int32), CRep (updS s (6 + j) i) ns9 lk9 ld9 ∧ SvR (svK k) (svP s k pp) nx9 sz9 rs9 rl9 rd9 ∧ w1 = [(K, ob 4 (kF p o v t y)), (p, ob 0 (cR q1 q2 ns9)), (q1, aI G 15 lk9), (q2, aI G 16 ld9), (v, ob 1 (vF v1 nx9 sz9)), (v1, aQ G 6 (fun k => some (u k))), (u 0, ob 0 (cR (u1 0) (u2 0) (rs9 0))), (u1 0, aI G 15 (rl9 0)), (u2 0, aI G 16 (rd9 0)), (u 1, ob 0 (cR (u1 1) (u2 1) (rs9 1))), (u1 1, aI G 15 (rl9 1)), (u2 1, aI G 16 (rd9 1)), (u 2, ob 0 (cR (u1 2) (u2 2) (rs9 2))), (u1 2, aI G 15 (rl9 2)), (u2 2, aI G 16 (rd9 2)), (u 3, ob 0 (cR (u1 3) (u2 3) (rs9 3))), (u1 3, aI G 15 (rl9 3)), (u2 3, aI G 16 (rd9 3)), (u 4, ob 0 (cR (u1 4) (u2 4) (rs9 4))), (u1 4, aI G 15 (rl9 4)), (u2 4, aI G 16 (rd9 4)), (u 5, ob 0 (cR (u1 5) (u2 5) (rs9 5))), (u1 5, aI G 15 (rl9 5)), (u2 5, aI G 16 (rd9 5))])) (fun E w1 => (E = xIO ∧ ¬ isN x 15 ∧ w1 = [(K, ob 4 (kF p o v t y)), (p, ob 0 (cR q1 q2 ns)), (q1, aI G 15 lk), (q2, aI G 16 ld), (v, ob 1 (vF v1 nx sz)), (v1, aQ G 6 (fun k => some (u k))), (u 0, ob 0 (cR (u1 0) (u2 0) (rs 0))), (u1 0, aI G 15 (rl 0)), (u2 0, aI G 16 (rd 0)), (u 1, ob 0 (cR (u1 1) (u2 1) (rs 1))), (u1 1, aI G 15 (rl 1)), (u2 1, aI G 16 (rd 1)), (u 2, ob 0 (cR (u1 2) (u2 2) (rs 2))), (u1 2, aI G 15 (rl 2)), (u2 2, aI G 16 (rd 2)), (u 3, ob 0 (cR (u1 3) (u2 3) (rs 3))), (u1 3, aI G 15 (rl 3)), (u2 3, aI G 16 (rd 3)), (u 4, ob 0 (cR (u1 4) (u2 4) (rs 4))), (u1 4, aI G 15 (rl 4)), (u2 4, aI G 16 (rd 4)), (u 5, ob 0 (cR (u1 5) (u2 5) (rs 5))), (u1 5, aI G 15 (rl 5)), (u2 5, aI G 16 (rd 5))]) ∨ (E = xIA ∧ isN x 15 ∧ ¬ isN z 5 ∧ w1 = [(K, ob 4 (kF p o v t y)), (p, ob 0 (cR q1 q2 ns)), (q1, aI G 15 lk), (q2, aI G 16 ld), (v, ob 1 (vF v1 nx sz)), (v1, aQ G 6 (fun k => some (u k))), (u 0, ob 0 (cR (u1 0) (u2 0) (rs 0))), (u1 0, aI G 15 (rl 0)), (u2 0, aI G 16 (rd 0)), (u 1, ob 0 (cR (u1 1) (u2 1) (rs 1))), (u1 1, aI G 15 (rl 1)), (u2 1, aI G 16 (rd 1)), (u 2, ob 0 (cR (u1 2) (u2 2) (rs 2))), (u1 2, aI G 15 (rl 2)), (u2 2, aI G 16 (rd 2)), (u 3, ob 0 (cR (u1 3) (u2 3) (rs 3))), (u1 3, aI G 15 (rl 3)), (u2 3, aI G 16 (rd 3)), (u 4, ob 0 (cR (u1 4) (u2 4) (rs 4))), (u1 4, aI G 15 (rl 4)), (u2 4, aI G 16 (rd 4)), (u 5, ob 0 (cR (u1 5) (u2 5) (rs 5))), (u1 5, aI G 15 (rl 5)), (u2 5, aI G 16 (rd 5))]) ∨ (E = xIS ∧ ∃ j i, j ≤ 15 ∧ i ≤ 5 ∧ x = nI j ∧ z = nI i ∧ (0 < i ∧ s (6 + j) = 0 ∧ kcN s 16 = 2) ∧ w1 = [(K, ob 4 (kF p o v t y)), (p, ob 0 (cR q1 q2 ns)), (q1, aI G 15 lk), (q2, aI G 16 ld), (v, ob 1 (vF v1 nx sz)), (v1, aQ G 6 (fun k => some (u k))), (u 0, ob 0 (cR (u1 0) (u2 0) (rs 0))), (u1 0, aI G 15 (rl 0)), (u2 0, aI G 16 (rd 0)), (u 1, ob 0 (cR (u1 1) (u2 1) (rs 1))), (u1 1, aI G 15 (rl 1)), (u2 1, aI G 16 (rd 1)), (u 2, ob 0 (cR (u1 2) (u2 2) (rs 2))), (u1 2, aI G 15 (rl 2)), (u2 2, aI G 16 (rd 2)), (u 3, ob 0 (cR (u1 3) (u2 3) (rs 3))), (u1 3, aI G 15 (rl 3)), (u2 3, aI G 16 (rd 3)), (u 4, ob 0 (cR (u1 4) (u2 4) (rs 4))), (u1 4, aI G 15 (rl 4)), (u2 4, aI G 16 (rd 4)), (u 5, ob 0 (cR (u1 5) (u2 5) (rs 5))), (u1 5, aI G 15 (rl 5)), (u2 5, aI G 16 (rd 5))])) := by
  refine ConX.mk hlt (Nat.le_of_ble_eq_true rfl) (by decide +kernel) (Nat.le_of_ble_eq_true rfl) (fun P C Rr Tr => ?_)
  refine st_iload_n C (dk DX5_key_0 0 rfl) rfl ?_
  refine st_cS C (k_X5_isCell l G) mf_X5_isCell ms_X5_isCell ml_RX5_71 (dk DX5_key_0 1 rfl) [] rfl rfl rfl rfl (Nat.le_of_ble_eq_true rfl) ⟨Nat.le_of_ble_eq_true rfl, Nat.le_of_ble_eq_true rfl⟩ ⟨Nat.zero_le _, Nat.zero_le _⟩ (fun r9 w9 hq9 => ?_)
  obtain ⟨rfl, rfl⟩ := hq9
  show P _ _ _ _ _ [_, _, _, _, _, _, _, _, _, _, _, _, _, _, _, _, _, _, _, _, _, _, _, _]
  refine st_if_ne C (tgt := 17) (dk DX5_key_0 2 rfl) (by decide) (fun c_4 => ?_) (fun c_4 => ?_)
  · refine st_iload_n C (dk DX5_key_0 8 rfl) rfl ?_
    refine st_cS C (k_X5_isBow l G) mf_X5_isBow ms_X5_isBow ml_RX5_51 (dk DX5_key_0 9 rfl) [] rfl rfl rfl rfl (Nat.le_of_ble_eq_true rfl) ⟨Nat.le_of_ble_eq_true rfl, Nat.le_of_ble_eq_true rfl⟩ ⟨Nat.zero_le _, Nat.zero_le _⟩ (fun r9 w9 hq9 => ?_)
    obtain ⟨rfl, rfl⟩ := hq9
    show P _ _ _ _ _ [_, _, _, _, _, _, _, _, _, _, _, _, _, _, _, _, _, _, _, _, _, _, _, _]
    refine st_if_ne C (tgt := 34) (dk DX5_key_0 10 rfl) (by decide) (fun c_21 => ?_) (fun c_21 => ?_)
    · obtain ⟨j, hj, rfl⟩ := rIn_f (n := 15) (by decide) rfl c_4
      obtain ⟨i, hi, rfl⟩ := rBowOk_f c_21
      obtain ⟨j9, hj9, hnx9, -⟩ := id hSv
      have hk2 := hC.keys.2
      have h65 : s (6 + j) ≤ 5 := by
        have := hC.1.2.2.2.1 j (by omega)
        unfold kAt at this
        rwa [if_neg (by omega)] at this
      refine st_aload_n C (dk DX5_key_0 16 rfl) rfl ?_
      refine st_get C fl_RX5_10 (dk DX5_key_0 17 rfl) 0 rfl rfl ?_
      refine st_aload_n C (dk DX5_key_0 18 rfl) rfl ?_
      refine st_get C fl_RX5_10 (dk DX5_key_0 19 rfl) 0 rfl rfl ?_
      refine st_get C fl_RX5_78 (dk DX5_key_0 20 rfl) 1 rfl rfl ?_
      refine st_iload_n C (dk DX5_key_0 21 rfl) rfl ?_
      refine st_cV C (k_X1_bowIn l G) mf_X1_bowIn mi_X1_bowIn ml_RX5_82 (dk DX5_key_0 22 rfl) [1] rfl rfl rfl rfl (Nat.le_of_ble_eq_true rfl) rfl rfl ⟨Nat.le_of_ble_eq_true rfl, Nat.le_of_ble_eq_true rfl⟩ ⟨Nat.zero_le _, Nat.zero_le _⟩ (fun r9 w9 hq9 => ?_)
      obtain ⟨rfl, rfl⟩ := hq9
      show P _ _ _ _ _ [_, _, _, _, _, _, _, _, _, _, _, _, _, _, _, _, _, _, _, _, _, _, _, _]
      rw [hC.bowc (c := j) (by omega)]
      refine st_istore_n C (dk DX5_key_0 23 rfl) (by decide) rfl ?_
      refine st_iload_n C (dk DX5_key_0 24 rfl) rfl ?_
      refine st_if_eq C (tgt := 79) (dk DX5_key_0 25 rfl) (by decide) (fun c_51 => ?_) (fun c_51 => ?_)
      · refine st_aload_n C (dk DX5_key_0 38 rfl) rfl ?_
        refine st_get C fl_RX5_22 (dk DX5_key_0 39 rfl) 0 rfl rfl ?_
        refine st_aload_n C (dk DX5_key_1 0 rfl) rfl ?_
        refine st_get C fl_RX5_10 (dk DX5_key_1 1 rfl) 0 rfl rfl ?_
        refine st_cV C (k_X2_push l G (v := v) (v1 := v1) (nx := nx) (sz := sz) (u := u) (u1 := u1) (u2 := u2) (rs := rs) (rl := rl) (rd := rd) (p := p) (q1 := q1) (q2 := q2) (ns := ns) (lk := lk) (ld := ld) hnx9 hj9) mf_X2_push mi_X2_push ml_RX5_59 (dk DX5_key_1 2 rfl) [4, 5, 6, 7, 8, 9, 10, 11, 12, 13, 14, 15, 16, 17, 18, 19, 20, 21, 22, 23, 1, 2, 3] (hC_cons rfl (hC_cons rfl (hC_cons rfl (hC_cons rfl (hC_cons rfl (hC_cons rfl (hC_cons rfl (hC_cons rfl (hC_cons rfl (hC_cons rfl (hC_cons rfl (hC_cons rfl (hC_cons rfl (hC_cons rfl (hC_cons rfl (hC_cons rfl (hC_cons rfl (hC_cons rfl (hC_cons rfl (hC_cons rfl (hC_cons rfl (hC_cons rfl (hC_cons rfl (hC_nil)))))))))))))))))))))))) (by decide +kernel) rfl rfl (Nat.le_of_ble_eq_true rfl) rfl rfl ⟨Nat.le_of_ble_eq_true rfl, Nat.le_of_ble_eq_true rfl⟩ ⟨Nat.zero_le _, Nat.zero_le _⟩ (fun r9 w9 hq9 => ?_)
        obtain ⟨rfl, lk87, ld87, hlk87, hld87, rfl⟩ := hq9
        simp only [put_cons, put_nil, List.set_cons_zero, List.set_cons_succ]
        refine st_aload_n C (dk DX5_key_1 3 rfl) rfl ?_
        refine st_get C fl_RX5_10 (dk DX5_key_1 4 rfl) 0 rfl rfl ?_
        refine st_iload_n C (dk DX5_key_1 5 rfl) rfl ?_
        refine st_iload_n C (dk DX5_key_1 6 rfl) rfl ?_
        refine st_cV C (k_X1_putKey l G) mf_X1_putKey mi_X1_putKey ml_RX5_95 (dk DX5_key_1 7 rfl) [1] rfl rfl rfl rfl (Nat.le_of_ble_eq_true rfl) rfl rfl ⟨Nat.le_of_ble_eq_true rfl, Nat.le_of_ble_eq_true rfl⟩ ⟨Nat.zero_le _, Nat.zero_le _⟩ (fun r9 w9 hq9 => ?_)
        obtain ⟨rfl, rfl⟩ := hq9
        show P _ _ _ _ _ [_, _, _, _, _, _, _, _, _, _, _, _, _, _, _, _, _, _, _, _, _, _, _, _]
        obtain ⟨ns9, e9, h9⟩ := hC.put (c := j) (v := i) (by omega) hi (Or.inl ((z5 hi).mp c_51)) q1 q2
        rw [e9]
        refine st_iload_n C (dk DX5_key_1 8 rfl) rfl ?_
        exact Rr 0 0 _ _ _ _ _ _ (Nat.zero_le _) (Nat.zero_le _) (dk DX5_key_1 9 rfl) (.inr (.inl ⟨_, rfl, rfl, rfl, rfl⟩)) rfl ⟨rfl, ⟨j, i, hj, hi, rfl, rfl, fun h => by have := (z5 hi).mp c_51; omega, rfl, ns9, lk, ld, _, _, va_up rs j9 ns, va_up rl j9 lk87, va_up rd j9 ld87, h9, hSv.push2 (hC.copy hlk87 hld87) hj9 hnx9, rfl⟩⟩
      · refine st_iload_n C (dk DX5_key_0 26 rfl) rfl ?_
        refine st_if_ne C (tgt := 79) (dk DX5_key_0 27 rfl) (by decide) (fun c_55 => ?_) (fun c_55 => ?_)
        · refine st_aload_n C (dk DX5_key_0 38 rfl) rfl ?_
          refine st_get C fl_RX5_22 (dk DX5_key_0 39 rfl) 0 rfl rfl ?_
          refine st_aload_n C (dk DX5_key_1 0 rfl) rfl ?_
          refine st_get C fl_RX5_10 (dk DX5_key_1 1 rfl) 0 rfl rfl ?_
          refine st_cV C (k_X2_push l G (v := v) (v1 := v1) (nx := nx) (sz := sz) (u := u) (u1 := u1) (u2 := u2) (rs := rs) (rl := rl) (rd := rd) (p := p) (q1 := q1) (q2 := q2) (ns := ns) (lk := lk) (ld := ld) hnx9 hj9) mf_X2_push mi_X2_push ml_RX5_59 (dk DX5_key_1 2 rfl) [4, 5, 6, 7, 8, 9, 10, 11, 12, 13, 14, 15, 16, 17, 18, 19, 20, 21, 22, 23, 1, 2, 3] (hC_cons rfl (hC_cons rfl (hC_cons rfl (hC_cons rfl (hC_cons rfl (hC_cons rfl (hC_cons rfl (hC_cons rfl (hC_cons rfl (hC_cons rfl (hC_cons rfl (hC_cons rfl (hC_cons rfl (hC_cons rfl (hC_cons rfl (hC_cons rfl (hC_cons rfl (hC_cons rfl (hC_cons rfl (hC_cons rfl (hC_cons rfl (hC_cons rfl (hC_cons rfl (hC_nil)))))))))))))))))))))))) (by decide +kernel) rfl rfl (Nat.le_of_ble_eq_true rfl) rfl rfl ⟨Nat.le_of_ble_eq_true rfl, Nat.le_of_ble_eq_true rfl⟩ ⟨Nat.zero_le _, Nat.zero_le _⟩ (fun r9 w9 hq9 => ?_)
          obtain ⟨rfl, lk87, ld87, hlk87, hld87, rfl⟩ := hq9
          simp only [put_cons, put_nil, List.set_cons_zero, List.set_cons_succ]
          refine st_aload_n C (dk DX5_key_1 3 rfl) rfl ?_
          refine st_get C fl_RX5_10 (dk DX5_key_1 4 rfl) 0 rfl rfl ?_
          refine st_iload_n C (dk DX5_key_1 5 rfl) rfl ?_
          refine st_iload_n C (dk DX5_key_1 6 rfl) rfl ?_
          refine st_cV C (k_X1_putKey l G) mf_X1_putKey mi_X1_putKey ml_RX5_95 (dk DX5_key_1 7 rfl) [1] rfl rfl rfl rfl (Nat.le_of_ble_eq_true rfl) rfl rfl ⟨Nat.le_of_ble_eq_true rfl, Nat.le_of_ble_eq_true rfl⟩ ⟨Nat.zero_le _, Nat.zero_le _⟩ (fun r9 w9 hq9 => ?_)
          obtain ⟨rfl, rfl⟩ := hq9
          show P _ _ _ _ _ [_, _, _, _, _, _, _, _, _, _, _, _, _, _, _, _, _, _, _, _, _, _, _, _]
          obtain ⟨ns9, e9, h9⟩ := hC.put (c := j) (v := i) (by omega) hi (Or.inr (Or.inl (fun h => c_55 ((eq_nI (a := s (6 + j)) (i := 0) (by omega) (by decide) rfl rfl).mpr h)))) q1 q2
          rw [e9]
          refine st_iload_n C (dk DX5_key_1 8 rfl) rfl ?_
          exact Rr 0 0 _ _ _ _ _ _ (Nat.zero_le _) (Nat.zero_le _) (dk DX5_key_1 9 rfl) (.inr (.inl ⟨_, rfl, rfl, rfl, rfl⟩)) rfl ⟨rfl, ⟨j, i, hj, hi, rfl, rfl, fun h => c_55 ((eq_nI (a := s (6 + j)) (i := 0) (by omega) (by decide) rfl rfl).mpr h.2.1), rfl, ns9, lk, ld, _, _, va_up rs j9 ns, va_up rl j9 lk87, va_up rd j9 ld87, h9, hSv.push2 (hC.copy hlk87 hld87) hj9 hnx9, rfl⟩⟩
        · refine st_aload_n C (dk DX5_key_0 28 rfl) rfl ?_
          refine st_get C fl_RX5_10 (dk DX5_key_0 29 rfl) 0 rfl rfl ?_
          refine st_cV C (k_X1_keys l G) mf_X1_keys mi_X1_keys ml_RX5_86 (dk DX5_key_0 30 rfl) [1] rfl rfl rfl rfl (Nat.le_of_ble_eq_true rfl) rfl rfl ⟨Nat.le_of_ble_eq_true rfl, Nat.le_of_ble_eq_true rfl⟩ ⟨Nat.zero_le _, Nat.zero_le _⟩ (fun r9 w9 hq9 => ?_)
          obtain ⟨rfl, rfl⟩ := hq9
          show P _ _ _ _ _ [_, _, _, _, _, _, _, _, _, _, _, _, _, _, _, _, _, _, _, _, _, _, _, _]
          rw [hC.keys.1]
          refine st_iconst C (v := 2) (dk DX5_key_0 31 rfl) (by decide) ?_
          refine st_icmp_lt C (tgt := 79) (dk DX5_key_0 32 rfl) (by decide) (fun c_66 => ?_) (fun c_66 => ?_)
          · refine st_aload_n C (dk DX5_key_0 38 rfl) rfl ?_
            refine st_get C fl_RX5_22 (dk DX5_key_0 39 rfl) 0 rfl rfl ?_
            refine st_aload_n C (dk DX5_key_1 0 rfl) rfl ?_
            refine st_get C fl_RX5_10 (dk DX5_key_1 1 rfl) 0 rfl rfl ?_
            refine st_cV C (k_X2_push l G (v := v) (v1 := v1) (nx := nx) (sz := sz) (u := u) (u1 := u1) (u2 := u2) (rs := rs) (rl := rl) (rd := rd) (p := p) (q1 := q1) (q2 := q2) (ns := ns) (lk := lk) (ld := ld) hnx9 hj9) mf_X2_push mi_X2_push ml_RX5_59 (dk DX5_key_1 2 rfl) [4, 5, 6, 7, 8, 9, 10, 11, 12, 13, 14, 15, 16, 17, 18, 19, 20, 21, 22, 23, 1, 2, 3] (hC_cons rfl (hC_cons rfl (hC_cons rfl (hC_cons rfl (hC_cons rfl (hC_cons rfl (hC_cons rfl (hC_cons rfl (hC_cons rfl (hC_cons rfl (hC_cons rfl (hC_cons rfl (hC_cons rfl (hC_cons rfl (hC_cons rfl (hC_cons rfl (hC_cons rfl (hC_cons rfl (hC_cons rfl (hC_cons rfl (hC_cons rfl (hC_cons rfl (hC_cons rfl (hC_nil)))))))))))))))))))))))) (by decide +kernel) rfl rfl (Nat.le_of_ble_eq_true rfl) rfl rfl ⟨Nat.le_of_ble_eq_true rfl, Nat.le_of_ble_eq_true rfl⟩ ⟨Nat.zero_le _, Nat.zero_le _⟩ (fun r9 w9 hq9 => ?_)
            obtain ⟨rfl, lk87, ld87, hlk87, hld87, rfl⟩ := hq9
            simp only [put_cons, put_nil, List.set_cons_zero, List.set_cons_succ]
            refine st_aload_n C (dk DX5_key_1 3 rfl) rfl ?_
            refine st_get C fl_RX5_10 (dk DX5_key_1 4 rfl) 0 rfl rfl ?_
            refine st_iload_n C (dk DX5_key_1 5 rfl) rfl ?_
            refine st_iload_n C (dk DX5_key_1 6 rfl) rfl ?_
            refine st_cV C (k_X1_putKey l G) mf_X1_putKey mi_X1_putKey ml_RX5_95 (dk DX5_key_1 7 rfl) [1] rfl rfl rfl rfl (Nat.le_of_ble_eq_true rfl) rfl rfl ⟨Nat.le_of_ble_eq_true rfl, Nat.le_of_ble_eq_true rfl⟩ ⟨Nat.zero_le _, Nat.zero_le _⟩ (fun r9 w9 hq9 => ?_)
            obtain ⟨rfl, rfl⟩ := hq9
            show P _ _ _ _ _ [_, _, _, _, _, _, _, _, _, _, _, _, _, _, _, _, _, _, _, _, _, _, _, _]
            obtain ⟨ns9, e9, h9⟩ := hC.put (c := j) (v := i) (by omega) hi (Or.inr (Or.inr ((lt_nI (a := kcN s 16) (i := 2) (by omega) (by decide) rfl rfl).mp c_66))) q1 q2
            rw [e9]
            refine st_iload_n C (dk DX5_key_1 8 rfl) rfl ?_
            exact Rr 0 0 _ _ _ _ _ _ (Nat.zero_le _) (Nat.zero_le _) (dk DX5_key_1 9 rfl) (.inr (.inl ⟨_, rfl, rfl, rfl, rfl⟩)) rfl ⟨rfl, ⟨j, i, hj, hi, rfl, rfl, fun h => by have := (lt_nI (a := kcN s 16) (i := 2) (by omega) (by decide) rfl rfl).mp c_66; omega, rfl, ns9, lk, ld, _, _, va_up rs j9 ns, va_up rl j9 lk87, va_up rd j9 ld87, h9, hSv.push2 (hC.copy hlk87 hld87) hj9 hnx9, rfl⟩⟩
          · exact Tr _ _ _ _ _ _ _ _ _ _ _ tf_90 sr_92 (Nat.le_of_ble_eq_true rfl) (Nat.le_of_ble_eq_true rfl) (dk DX5_key_0 33 rfl) (dk DX5_key_0 34 rfl) (dk DX5_key_0 35 rfl) (dk DX5_key_0 36 rfl) (dk DX5_key_0 37 rfl) (Nat.le_of_ble_eq_true rfl) rfl (Or.inr (Or.inr ⟨rfl, j, i, hj, hi, rfl, rfl, ⟨by have := mt (z5 hi).mpr c_51; omega, (eq_nI (a := s (6 + j)) (i := 0) (by omega) (by decide) rfl rfl).mp c_55, by have := mt (lt_nI (a := kcN s 16) (i := 2) (by omega) (by decide) rfl rfl).mpr c_66; omega⟩, rfl⟩))
    · exact Tr _ _ _ _ _ _ _ _ _ _ _ tf_54 sr_76 (Nat.le_of_ble_eq_true rfl) (Nat.le_of_ble_eq_true rfl) (dk DX5_key_0 11 rfl) (dk DX5_key_0 12 rfl) (dk DX5_key_0 13 rfl) (dk DX5_key_0 14 rfl) (dk DX5_key_0 15 rfl) (Nat.le_of_ble_eq_true rfl) rfl (Or.inr (Or.inl ⟨rfl, rIn_f (n := 15) (by decide) rfl c_4, rBowOk_t c_21, rfl⟩))
  · exact Tr _ _ _ _ _ _ _ _ _ _ _ tf_44 sr_74 (Nat.le_of_ble_eq_true rfl) (Nat.le_of_ble_eq_true rfl) (dk DX5_key_0 3 rfl) (dk DX5_key_0 4 rfl) (dk DX5_key_0 5 rfl) (dk DX5_key_0 6 rfl) (dk DX5_key_0 7 rfl) (Nat.le_of_ble_eq_true rfl) rfl (Or.inl ⟨rfl, rIn_t (n := 15) (by decide) rfl c_4, rfl⟩)
set_option maxHeartbeats 4000000 in
set_option maxRecDepth 100000 in
theorem k_X5_ladder (l : Launch) (G : wG) (hlt : l.stackTraces = false) {K p q1 q2 o v v1 t y : Nat} {s : mS} {ns lk ld : Nat → Int32} {u u1 u2 : Nat → Nat} {nx sz : Int32} {rs rl rd : Nat → Nat → Int32} {k : Nat} {pp : Nat → mS} {x z : Int32} (hC : CRep s ns lk ld) (hSv : SvR k pp nx sz rs rl rd) : ConX l G yX5_ladder cX5_ladder 4 (some .int) 6 1 6 [.ref K, .int x, .int z] [(K, ob 4 (kF p o v t y)), (p, ob 0 (cR q1 q2 ns)), (q1, aI G 15 lk), (q2, aI G 16 ld), (v, ob 1 (vF v1 nx sz)), (v1, aQ G 6 (fun k => some (u k))), (u 0, ob 0 (cR (u1 0) (u2 0) (rs 0))), (u1 0, aI G 15 (rl 0)), (u2 0, aI G 16 (rd 0)), (u 1, ob 0 (cR (u1 1) (u2 1) (rs 1))), (u1 1, aI G 15 (rl 1)), (u2 1, aI G 16 (rd 1)), (u 2, ob 0 (cR (u1 2) (u2 2) (rs 2))), (u1 2, aI G 15 (rl 2)), (u2 2, aI G 16 (rd 2)), (u 3, ob 0 (cR (u1 3) (u2 3) (rs 3))), (u1 3, aI G 15 (rl 3)), (u2 3, aI G 16 (rd 3)), (u 4, ob 0 (cR (u1 4) (u2 4) (rs 4))), (u1 4, aI G 15 (rl 4)), (u2 4, aI G 16 (rd 4)), (u 5, ob 0 (cR (u1 5) (u2 5) (rs 5))), (u1 5, aI G 15 (rl 5)), (u2 5, aI G 16 (rd 5))] (fun r w1 w2 => w2 = [] ∧ (∃ j, j ≤ 15 ∧ x = nI j ∧ r = some (.int (nI (s (37 + j)))) ∧ ∃ (ns9 lk9 ld9 : Nat → Int32) (nx9 sz9 : Int32) (rs9 rl9 rd9 : Nat → Nat → Int32), CRep (updS s (37 + j) (if z = 0 then 0 else 1)) ns9 lk9 ld9 ∧ SvR (svK k) (svP s k pp) nx9 sz9 rs9 rl9 rd9 ∧ w1 = [(K, ob 4 (kF p o v t y)), (p, ob 0 (cR q1 q2 ns9)), (q1, aI G 15 lk9), (q2, aI G 16 ld9), (v, ob 1 (vF v1 nx9 sz9)), (v1, aQ G 6 (fun k => some (u k))), (u 0, ob 0 (cR (u1 0) (u2 0) (rs9 0))), (u1 0, aI G 15 (rl9 0)), (u2 0, aI G 16 (rd9 0)), (u 1, ob 0 (cR (u1 1) (u2 1) (rs9 1))), (u1 1, aI G 15 (rl9 1)), (u2 1, aI G 16 (rd9 1)), (u 2, ob 0 (cR (u1 2) (u2 2) (rs9 2))), (u1 2, aI G 15 (rl9 2)), (u2 2, aI G 16 (rd9 2)), (u 3, ob 0 (cR (u1 3) (u2 3) (rs9 3))), (u1 3, aI G 15 (rl9 3)), (u2 3, aI G 16 (rd9 3)), (u 4, ob 0 (cR (u1 4) (u2 4) (rs9 4))), (u1 4, aI G 15 (rl9 4)), (u2 4, aI G 16 (rd9 4)), (u 5, ob 0 (cR (u1 5) (u2 5) (rs9 5))), (u1 5, aI G 15 (rl9 5)), (u2 5, aI G 16 (rd9 5))])) (fun E w1 => E = xIO ∧ ¬ isN x 15 ∧ w1 = [(K, ob 4 (kF p o v t y)), (p, ob 0 (cR q1 q2 ns)), (q1, aI G 15 lk), (q2, aI G 16 ld), (v, ob 1 (vF v1 nx sz)), (v1, aQ G 6 (fun k => some (u k))), (u 0, ob 0 (cR (u1 0) (u2 0) (rs 0))), (u1 0, aI G 15 (rl 0)), (u2 0, aI G 16 (rd 0)), (u 1, ob 0 (cR (u1 1) (u2 1) (rs 1))), (u1 1, aI G 15 (rl 1)), (u2 1, aI G 16 (rd 1)), (u 2, ob 0 (cR (u1 2) (u2 2) (rs 2))), (u1 2, aI G 15 (rl 2)), (u2 2, aI G 16 (rd 2)), (u 3, ob 0 (cR (u1 3) (u2 3) (rs 3))), (u1 3, aI G 15 (rl 3)), (u2 3, aI G 16 (rd 3)), (u 4, ob 0 (cR (u1 4) (u2 4) (rs 4))), (u1 4, aI G 15 (rl 4)), (u2 4, aI G 16 (rd 4)), (u 5, ob 0 (cR (u1 5) (u2 5) (rs 5))), (u1 5, aI G 15 (rl 5)), (u2 5, aI G 16 (rd 5))]) := by
  refine ConX.mk hlt (Nat.le_of_ble_eq_true rfl) (by decide +kernel) (Nat.le_of_ble_eq_true rfl) (fun P C Rr Tr => ?_)
  refine st_iload_n C (dk DX5_ladder_0 0 rfl) rfl ?_
  refine st_cS C (k_X5_isCell l G) mf_X5_isCell ms_X5_isCell ml_RX5_71 (dk DX5_ladder_0 1 rfl) [] rfl rfl rfl rfl (Nat.le_of_ble_eq_true rfl) ⟨Nat.le_of_ble_eq_true rfl, Nat.le_of_ble_eq_true rfl⟩ ⟨Nat.zero_le _, Nat.zero_le _⟩ (fun r9 w9 hq9 => ?_)
  obtain ⟨rfl, rfl⟩ := hq9
  show P _ _ _ _ _ [_, _, _, _, _, _, _, _, _, _, _, _, _, _, _, _, _, _, _, _, _, _, _, _]
  refine st_if_ne C (tgt := 17) (dk DX5_ladder_0 2 rfl) (by decide) (fun c_4 => ?_) (fun c_4 => ?_)
  · obtain ⟨j, hj, rfl⟩ := rIn_f (n := 15) (by decide) rfl c_4
    obtain ⟨j9, hj9, hnx9, -⟩ := id hSv
    refine st_aload_n C (dk DX5_ladder_0 8 rfl) rfl ?_
    refine st_get C fl_RX5_22 (dk DX5_ladder_0 9 rfl) 0 rfl rfl ?_
    refine st_aload_n C (dk DX5_ladder_0 10 rfl) rfl ?_
    refine st_get C fl_RX5_10 (dk DX5_ladder_0 11 rfl) 0 rfl rfl ?_
    refine st_cV C (k_X2_push l G (v := v) (v1 := v1) (nx := nx) (sz := sz) (u := u) (u1 := u1) (u2 := u2) (rs := rs) (rl := rl) (rd := rd) (p := p) (q1 := q1) (q2 := q2) (ns := ns) (lk := lk) (ld := ld) hnx9 hj9) mf_X2_push mi_X2_push ml_RX5_59 (dk DX5_ladder_0 12 rfl) [4, 5, 6, 7, 8, 9, 10, 11, 12, 13, 14, 15, 16, 17, 18, 19, 20, 21, 22, 23, 1, 2, 3] (hC_cons rfl (hC_cons rfl (hC_cons rfl (hC_cons rfl (hC_cons rfl (hC_cons rfl (hC_cons rfl (hC_cons rfl (hC_cons rfl (hC_cons rfl (hC_cons rfl (hC_cons rfl (hC_cons rfl (hC_cons rfl (hC_cons rfl (hC_cons rfl (hC_cons rfl (hC_cons rfl (hC_cons rfl (hC_cons rfl (hC_cons rfl (hC_cons rfl (hC_cons rfl (hC_nil)))))))))))))))))))))))) (by decide +kernel) rfl rfl (Nat.le_of_ble_eq_true rfl) rfl rfl ⟨Nat.le_of_ble_eq_true rfl, Nat.le_of_ble_eq_true rfl⟩ ⟨Nat.zero_le _, Nat.zero_le _⟩ (fun r9 w9 hq9 => ?_)
    obtain ⟨rfl, lk25, ld25, hlk25, hld25, rfl⟩ := hq9
    simp only [put_cons, put_nil, List.set_cons_zero, List.set_cons_succ]
    refine st_aload_n C (dk DX5_ladder_0 13 rfl) rfl ?_
    refine st_get C fl_RX5_10 (dk DX5_ladder_0 14 rfl) 0 rfl rfl ?_
    refine st_iload_n C (dk DX5_ladder_0 15 rfl) rfl ?_
    refine st_cV C (k_X1_ladderIn l G) mf_X1_ladderIn mi_X1_ladderIn ml_RX5_98 (dk DX5_ladder_0 16 rfl) [1, 3] rfl rfl rfl rfl (Nat.le_of_ble_eq_true rfl) rfl rfl ⟨Nat.le_of_ble_eq_true rfl, Nat.le_of_ble_eq_true rfl⟩ ⟨Nat.zero_le _, Nat.zero_le _⟩ (fun r9 w9 hq9 => ?_)
    obtain ⟨rfl, rfl⟩ := hq9
    show P _ _ _ _ _ [_, _, _, _, _, _, _, _, _, _, _, _, _, _, _, _, _, _, _, _, _, _, _, _]
    refine st_istore_n C (dk DX5_ladder_0 17 rfl) (by decide) rfl ?_
    refine st_aload_n C (dk DX5_ladder_0 18 rfl) rfl ?_
    refine st_get C fl_RX5_10 (dk DX5_ladder_0 19 rfl) 0 rfl rfl ?_
    refine st_iload_n C (dk DX5_ladder_0 20 rfl) rfl ?_
    refine st_iload_n C (dk DX5_ladder_0 21 rfl) rfl ?_
    refine st_if_eq C (tgt := 50) (dk DX5_ladder_0 22 rfl) (by decide) (fun c_43 => ?_) (fun c_43 => ?_)
    · refine st_iconst C (v := 0) (dk DX5_ladder_0 25 rfl) (by decide) ?_
      refine st_cV C (k_X1_setLadder l G) mf_X1_setLadder mi_X1_setLadder ml_RX5_101 (dk DX5_ladder_0 26 rfl) [1, 3] rfl rfl rfl rfl (Nat.le_of_ble_eq_true rfl) rfl rfl ⟨Nat.le_of_ble_eq_true rfl, Nat.le_of_ble_eq_true rfl⟩ ⟨Nat.zero_le _, Nat.zero_le _⟩ (fun r9 w9 hq9 => ?_)
      obtain ⟨rfl, rfl⟩ := hq9
      show P _ _ _ _ _ [_, _, _, _, _, _, _, _, _, _, _, _, _, _, _, _, _, _, _, _, _, _, _, _]
      refine st_iload_n C (dk DX5_ladder_0 27 rfl) rfl ?_
      exact Rr 0 0 _ _ _ _ _ _ (Nat.zero_le _) (Nat.zero_le _) (dk DX5_ladder_0 28 rfl) (.inr (.inl ⟨_, rfl, rfl, rfl, rfl⟩)) rfl ⟨rfl, ⟨j, hj, rfl, by rw [hC.lad (by omega)], ns, _, _, _, _, va_up rs j9 ns, va_up rl j9 lk25, va_up rd j9 ld25, by rw [if_pos c_43]; exact hC.setLad hj (i := 0) (by omega), hSv.push2 (hC.copy hlk25 hld25) hj9 hnx9, rfl⟩⟩
    · refine st_iconst C (v := 1) (dk DX5_ladder_0 23 rfl) (by decide) ?_
      refine st_goto C (tgt := 51) (dk DX5_ladder_0 24 rfl) (by decide) ?_
      refine st_cV C (k_X1_setLadder l G) mf_X1_setLadder mi_X1_setLadder ml_RX5_101 (dk DX5_ladder_0 26 rfl) [1, 3] rfl rfl rfl rfl (Nat.le_of_ble_eq_true rfl) rfl rfl ⟨Nat.le_of_ble_eq_true rfl, Nat.le_of_ble_eq_true rfl⟩ ⟨Nat.zero_le _, Nat.zero_le _⟩ (fun r9 w9 hq9 => ?_)
      obtain ⟨rfl, rfl⟩ := hq9
      show P _ _ _ _ _ [_, _, _, _, _, _, _, _, _, _, _, _, _, _, _, _, _, _, _, _, _, _, _, _]
      refine st_iload_n C (dk DX5_ladder_0 27 rfl) rfl ?_
      exact Rr 0 0 _ _ _ _ _ _ (Nat.zero_le _) (Nat.zero_le _) (dk DX5_ladder_0 28 rfl) (.inr (.inl ⟨_, rfl, rfl, rfl, rfl⟩)) rfl ⟨rfl, ⟨j, hj, rfl, by rw [hC.lad (by omega)], ns, _, _, _, _, va_up rs j9 ns, va_up rl j9 lk25, va_up rd j9 ld25, by rw [if_neg c_43]; exact hC.setLad hj (i := 1) (by omega), hSv.push2 (hC.copy hlk25 hld25) hj9 hnx9, rfl⟩⟩
  · exact Tr _ _ _ _ _ _ _ _ _ _ _ tf_44 sr_74 (Nat.le_of_ble_eq_true rfl) (Nat.le_of_ble_eq_true rfl) (dk DX5_ladder_0 3 rfl) (dk DX5_ladder_0 4 rfl) (dk DX5_ladder_0 5 rfl) (dk DX5_ladder_0 6 rfl) (dk DX5_ladder_0 7 rfl) (Nat.le_of_ble_eq_true rfl) rfl (⟨rfl, rIn_t (n := 15) (by decide) rfl c_4, rfl⟩)
set_option maxHeartbeats 4000000 in
set_option maxRecDepth 100000 in
theorem k_X5_fold (l : Launch) (G : wG) (hlt : l.stackTraces = false) {K p q1 q2 o v v1 t y : Nat} {s : mS} {ns lk ld : Nat → Int32} {u u1 u2 : Nat → Nat} {nx sz : Int32} {rs rl rd : Nat → Nat → Int32} {k : Nat} {pp : Nat → mS} {x : Int32} (hC : CRep s ns lk ld) (hSv : SvR k pp nx sz rs rl rd) : ConX l G yX5_fold cX5_fold 3 (some .int) 6 1 6 [.ref K, .int x] [(K, ob 4 (kF p o v t y)), (p, ob 0 (cR q1 q2 ns)), (q1, aI G 15 lk), (q2, aI G 16 ld), (v, ob 1 (vF v1 nx sz)), (v1, aQ G 6 (fun k => some (u k))), (u 0, ob 0 (cR (u1 0) (u2 0) (rs 0))), (u1 0, aI G 15 (rl 0)), (u2 0, aI G 16 (rd 0)), (u 1, ob 0 (cR (u1 1) (u2 1) (rs 1))), (u1 1, aI G 15 (rl 1)), (u2 1, aI G 16 (rd 1)), (u 2, ob 0 (cR (u1 2) (u2 2) (rs 2))), (u1 2, aI G 15 (rl 2)), (u2 2, aI G 16 (rd 2)), (u 3, ob 0 (cR (u1 3) (u2 3) (rs 3))), (u1 3, aI G 15 (rl 3)), (u2 3, aI G 16 (rd 3)), (u 4, ob 0 (cR (u1 4) (u2 4) (rs 4))), (u1 4, aI G 15 (rl 4)), (u2 4, aI G 16 (rd 4)), (u 5, ob 0 (cR (u1 5) (u2 5) (rs 5))), (u1 5, aI G 15 (rl 5)), (u2 5, aI G 16 (rd 5))] (fun r w1 w2 => w2 = [] ∧ (∃ j, 2 ≤ j ∧ j ≤ 8 ∧ x = nI j ∧ r = some (.int (nI (s 0))) ∧ ∃ (ns9 lk9 ld9 : Nat → Int32) (nx9 sz9 : Int32) (rs9 rl9 rd9 : Nat → Nat → Int32), CRep (updS s 0 j) ns9 lk9 ld9 ∧ SvR (svK k) (svP s k pp) nx9 sz9 rs9 rl9 rd9 ∧ w1 = [(K, ob 4 (kF p o v t y)), (p, ob 0 (cR q1 q2 ns9)), (q1, aI G 15 lk9), (q2, aI G 16 ld9), (v, ob 1 (vF v1 nx9 sz9)), (v1, aQ G 6 (fun k => some (u k))), (u 0, ob 0 (cR (u1 0) (u2 0) (rs9 0))), (u1 0, aI G 15 (rl9 0)), (u2 0, aI G 16 (rd9 0)), (u 1, ob 0 (cR (u1 1) (u2 1) (rs9 1))), (u1 1, aI G 15 (rl9 1)), (u2 1, aI G 16 (rd9 1)), (u 2, ob 0 (cR (u1 2) (u2 2) (rs9 2))), (u1 2, aI G 15 (rl9 2)), (u2 2, aI G 16 (rd9 2)), (u 3, ob 0 (cR (u1 3) (u2 3) (rs9 3))), (u1 3, aI G 15 (rl9 3)), (u2 3, aI G 16 (rd9 3)), (u 4, ob 0 (cR (u1 4) (u2 4) (rs9 4))), (u1 4, aI G 15 (rl9 4)), (u2 4, aI G 16 (rd9 4)), (u 5, ob 0 (cR (u1 5) (u2 5) (rs9 5))), (u1 5, aI G 15 (rl9 5)), (u2 5, aI G 16 (rd9 5))])) (fun E w1 => E = xIA ∧ ¬ isR x 2 8 ∧ w1 = [(K, ob 4 (kF p o v t y)), (p, ob 0 (cR q1 q2 ns)), (q1, aI G 15 lk), (q2, aI G 16 ld), (v, ob 1 (vF v1 nx sz)), (v1, aQ G 6 (fun k => some (u k))), (u 0, ob 0 (cR (u1 0) (u2 0) (rs 0))), (u1 0, aI G 15 (rl 0)), (u2 0, aI G 16 (rd 0)), (u 1, ob 0 (cR (u1 1) (u2 1) (rs 1))), (u1 1, aI G 15 (rl 1)), (u2 1, aI G 16 (rd 1)), (u 2, ob 0 (cR (u1 2) (u2 2) (rs 2))), (u1 2, aI G 15 (rl 2)), (u2 2, aI G 16 (rd 2)), (u 3, ob 0 (cR (u1 3) (u2 3) (rs 3))), (u1 3, aI G 15 (rl 3)), (u2 3, aI G 16 (rd 3)), (u 4, ob 0 (cR (u1 4) (u2 4) (rs 4))), (u1 4, aI G 15 (rl 4)), (u2 4, aI G 16 (rd 4)), (u 5, ob 0 (cR (u1 5) (u2 5) (rs 5))), (u1 5, aI G 15 (rl 5)), (u2 5, aI G 16 (rd 5))]) := by
  refine ConX.mk hlt (Nat.le_of_ble_eq_true rfl) (by decide +kernel) (Nat.le_of_ble_eq_true rfl) (fun P C Rr Tr => ?_)
  refine st_iload_n C (dk DX5_fold_0 0 rfl) rfl ?_
  refine st_iconst C (v := 2) (dk DX5_fold_0 1 rfl) (by decide) ?_
  refine st_icmp_lt C (tgt := 11) (dk DX5_fold_0 2 rfl) (by decide) (fun c_2 => ?_) (fun c_2 => ?_)
  · exact Tr _ _ _ _ _ _ _ _ _ _ _ tf_54 sr_104 (Nat.le_of_ble_eq_true rfl) (Nat.le_of_ble_eq_true rfl) (dk DX5_fold_0 6 rfl) (dk DX5_fold_0 7 rfl) (dk DX5_fold_0 8 rfl) (dk DX5_fold_0 9 rfl) (dk DX5_fold_0 10 rfl) (Nat.le_of_ble_eq_true rfl) rfl (⟨rfl, isR_lo (a := 2) (n := 8) (by decide) (by decide) rfl c_2, rfl⟩)
  · refine st_iload_n C (dk DX5_fold_0 3 rfl) rfl ?_
    refine st_bipush C (v := 8) (dk DX5_fold_0 4 rfl) (by decide) ?_
    refine st_icmp_le C (tgt := 21) (dk DX5_fold_0 5 rfl) (by decide) (fun c_8 => ?_) (fun c_8 => ?_)
    · obtain ⟨j, hj, hj2, rfl⟩ := isR_le (a := 2) (n := 8) (by decide) (by decide) rfl rfl c_2 c_8
      obtain ⟨j9, hj9, hnx9, -⟩ := id hSv
      refine st_aload_n C (dk DX5_fold_0 11 rfl) rfl ?_
      refine st_get C fl_RX5_22 (dk DX5_fold_0 12 rfl) 0 rfl rfl ?_
      refine st_aload_n C (dk DX5_fold_0 13 rfl) rfl ?_
      refine st_get C fl_RX5_10 (dk DX5_fold_0 14 rfl) 0 rfl rfl ?_
      refine st_cV C (k_X2_push l G (v := v) (v1 := v1) (nx := nx) (sz := sz) (u := u) (u1 := u1) (u2 := u2) (rs := rs) (rl := rl) (rd := rd) (p := p) (q1 := q1) (q2 := q2) (ns := ns) (lk := lk) (ld := ld) hnx9 hj9) mf_X2_push mi_X2_push ml_RX5_59 (dk DX5_fold_0 15 rfl) [4, 5, 6, 7, 8, 9, 10, 11, 12, 13, 14, 15, 16, 17, 18, 19, 20, 21, 22, 23, 1, 2, 3] (hC_cons rfl (hC_cons rfl (hC_cons rfl (hC_cons rfl (hC_cons rfl (hC_cons rfl (hC_cons rfl (hC_cons rfl (hC_cons rfl (hC_cons rfl (hC_cons rfl (hC_cons rfl (hC_cons rfl (hC_cons rfl (hC_cons rfl (hC_cons rfl (hC_cons rfl (hC_cons rfl (hC_cons rfl (hC_cons rfl (hC_cons rfl (hC_cons rfl (hC_cons rfl (hC_nil)))))))))))))))))))))))) (by decide +kernel) rfl rfl (Nat.le_of_ble_eq_true rfl) rfl rfl ⟨Nat.le_of_ble_eq_true rfl, Nat.le_of_ble_eq_true rfl⟩ ⟨Nat.zero_le _, Nat.zero_le _⟩ (fun r9 w9 hq9 => ?_)
      obtain ⟨rfl, lk29, ld29, hlk29, hld29, rfl⟩ := hq9
      simp only [put_cons, put_nil, List.set_cons_zero, List.set_cons_succ]
      refine st_aload_n C (dk DX5_fold_0 16 rfl) rfl ?_
      refine st_get C fl_RX5_10 (dk DX5_fold_0 17 rfl) 0 rfl rfl ?_
      refine st_get C fl_RX5_106 (dk DX5_fold_0 18 rfl) 1 rfl rfl ?_
      refine st_istore_n C (dk DX5_fold_0 19 rfl) (by decide) rfl ?_
      refine st_aload_n C (dk DX5_fold_0 20 rfl) rfl ?_
      refine st_get C fl_RX5_10 (dk DX5_fold_0 21 rfl) 0 rfl rfl ?_
      refine st_iload_n C (dk DX5_fold_0 22 rfl) rfl ?_
      refine st_put C fl_RX5_106 fc_0 fw_0_5 (dk DX5_fold_0 23 rfl) 1 rfl rfl rfl (Nat.le_of_ble_eq_true rfl) ?_
      refine st_iload_n C (dk DX5_fold_0 24 rfl) rfl ?_
      exact Rr 0 0 _ _ _ _ _ _ (Nat.zero_le _) (Nat.zero_le _) (dk DX5_fold_0 25 rfl) (.inr (.inl ⟨_, rfl, rfl, rfl, rfl⟩)) rfl ⟨rfl, ⟨j, hj, hj2, rfl, by rw [hC.2.2.2.1.1], mk7 (ns 0) (ns 1) (ns 2) (nI j) (ns 4) (ns 5) (ns 6), lk, ld, _, _, va_up rs j9 ns, va_up rl j9 lk29, va_up rd j9 ld29, hC.fold hj hj2, hSv.push2 (hC.copy hlk29 hld29) hj9 hnx9, rfl⟩⟩
    · exact Tr _ _ _ _ _ _ _ _ _ _ _ tf_54 sr_104 (Nat.le_of_ble_eq_true rfl) (Nat.le_of_ble_eq_true rfl) (dk DX5_fold_0 6 rfl) (dk DX5_fold_0 7 rfl) (dk DX5_fold_0 8 rfl) (dk DX5_fold_0 9 rfl) (dk DX5_fold_0 10 rfl) (Nat.le_of_ble_eq_true rfl) rfl (⟨rfl, isR_nle (a := 2) (n := 8) (by decide) rfl c_8, rfl⟩)
set_option maxHeartbeats 4000000 in
set_option maxRecDepth 100000 in
theorem k_X5_stand (l : Launch) (G : wG) (hlt : l.stackTraces = false) {K p q1 q2 o v v1 t y : Nat} {s : mS} {ns lk ld : Nat → Int32} {u u1 u2 : Nat → Nat} {nx sz : Int32} {rs rl rd : Nat → Nat → Int32} {k : Nat} {pp : Nat → mS} {x : Int32} (hC : CRep s ns lk ld) (hSv : SvR k pp nx sz rs rl rd) : ConX l G yX5_stand cX5_stand 3 (some .int) 6 1 6 [.ref K, .int x] [(K, ob 4 (kF p o v t y)), (p, ob 0 (cR q1 q2 ns)), (q1, aI G 15 lk), (q2, aI G 16 ld), (v, ob 1 (vF v1 nx sz)), (v1, aQ G 6 (fun k => some (u k))), (u 0, ob 0 (cR (u1 0) (u2 0) (rs 0))), (u1 0, aI G 15 (rl 0)), (u2 0, aI G 16 (rd 0)), (u 1, ob 0 (cR (u1 1) (u2 1) (rs 1))), (u1 1, aI G 15 (rl 1)), (u2 1, aI G 16 (rd 1)), (u 2, ob 0 (cR (u1 2) (u2 2) (rs 2))), (u1 2, aI G 15 (rl 2)), (u2 2, aI G 16 (rd 2)), (u 3, ob 0 (cR (u1 3) (u2 3) (rs 3))), (u1 3, aI G 15 (rl 3)), (u2 3, aI G 16 (rd 3)), (u 4, ob 0 (cR (u1 4) (u2 4) (rs 4))), (u1 4, aI G 15 (rl 4)), (u2 4, aI G 16 (rd 4)), (u 5, ob 0 (cR (u1 5) (u2 5) (rs 5))), (u1 5, aI G 15 (rl 5)), (u2 5, aI G 16 (rd 5))] (fun r w1 w2 => w2 = [] ∧ (∃ j, j ≤ 15 ∧ x = nI j ∧ r = some (.int (nI (s 1))) ∧ ∃ (ns9 lk9 ld9 : Nat → Int32) (nx9 sz9 : Int32) (rs9 rl9 rd9 : Nat → Nat → Int32), CRep (updS s 1 j) ns9 lk9 ld9 ∧ SvR (svK k) (svP s k pp) nx9 sz9 rs9 rl9 rd9 ∧ w1 = [(K, ob 4 (kF p o v t y)), (p, ob 0 (cR q1 q2 ns9)), (q1, aI G 15 lk9), (q2, aI G 16 ld9), (v, ob 1 (vF v1 nx9 sz9)), (v1, aQ G 6 (fun k => some (u k))), (u 0, ob 0 (cR (u1 0) (u2 0) (rs9 0))), (u1 0, aI G 15 (rl9 0)), (u2 0, aI G 16 (rd9 0)), (u 1, ob 0 (cR (u1 1) (u2 1) (rs9 1))), (u1 1, aI G 15 (rl9 1)), (u2 1, aI G 16 (rd9 1)), (u 2, ob 0 (cR (u1 2) (u2 2) (rs9 2))), (u1 2, aI G 15 (rl9 2)), (u2 2, aI G 16 (rd9 2)), (u 3, ob 0 (cR (u1 3) (u2 3) (rs9 3))), (u1 3, aI G 15 (rl9 3)), (u2 3, aI G 16 (rd9 3)), (u 4, ob 0 (cR (u1 4) (u2 4) (rs9 4))), (u1 4, aI G 15 (rl9 4)), (u2 4, aI G 16 (rd9 4)), (u 5, ob 0 (cR (u1 5) (u2 5) (rs9 5))), (u1 5, aI G 15 (rl9 5)), (u2 5, aI G 16 (rd9 5))])) (fun E w1 => E = xIO ∧ ¬ isN x 15 ∧ w1 = [(K, ob 4 (kF p o v t y)), (p, ob 0 (cR q1 q2 ns)), (q1, aI G 15 lk), (q2, aI G 16 ld), (v, ob 1 (vF v1 nx sz)), (v1, aQ G 6 (fun k => some (u k))), (u 0, ob 0 (cR (u1 0) (u2 0) (rs 0))), (u1 0, aI G 15 (rl 0)), (u2 0, aI G 16 (rd 0)), (u 1, ob 0 (cR (u1 1) (u2 1) (rs 1))), (u1 1, aI G 15 (rl 1)), (u2 1, aI G 16 (rd 1)), (u 2, ob 0 (cR (u1 2) (u2 2) (rs 2))), (u1 2, aI G 15 (rl 2)), (u2 2, aI G 16 (rd 2)), (u 3, ob 0 (cR (u1 3) (u2 3) (rs 3))), (u1 3, aI G 15 (rl 3)), (u2 3, aI G 16 (rd 3)), (u 4, ob 0 (cR (u1 4) (u2 4) (rs 4))), (u1 4, aI G 15 (rl 4)), (u2 4, aI G 16 (rd 4)), (u 5, ob 0 (cR (u1 5) (u2 5) (rs 5))), (u1 5, aI G 15 (rl 5)), (u2 5, aI G 16 (rd 5))]) := by
  refine ConX.mk hlt (Nat.le_of_ble_eq_true rfl) (by decide +kernel) (Nat.le_of_ble_eq_true rfl) (fun P C Rr Tr => ?_)
  refine st_iload_n C (dk DX5_stand_0 0 rfl) rfl ?_
  refine st_cS C (k_X5_isCell l G) mf_X5_isCell ms_X5_isCell ml_RX5_71 (dk DX5_stand_0 1 rfl) [] rfl rfl rfl rfl (Nat.le_of_ble_eq_true rfl) ⟨Nat.le_of_ble_eq_true rfl, Nat.le_of_ble_eq_true rfl⟩ ⟨Nat.zero_le _, Nat.zero_le _⟩ (fun r9 w9 hq9 => ?_)
  obtain ⟨rfl, rfl⟩ := hq9
  show P _ _ _ _ _ [_, _, _, _, _, _, _, _, _, _, _, _, _, _, _, _, _, _, _, _, _, _, _, _]
  refine st_if_ne C (tgt := 17) (dk DX5_stand_0 2 rfl) (by decide) (fun c_4 => ?_) (fun c_4 => ?_)
  · obtain ⟨j, hj, rfl⟩ := rIn_f (n := 15) (by decide) rfl c_4
    obtain ⟨j9, hj9, hnx9, -⟩ := id hSv
    refine st_aload_n C (dk DX5_stand_0 8 rfl) rfl ?_
    refine st_get C fl_RX5_22 (dk DX5_stand_0 9 rfl) 0 rfl rfl ?_
    refine st_aload_n C (dk DX5_stand_0 10 rfl) rfl ?_
    refine st_get C fl_RX5_10 (dk DX5_stand_0 11 rfl) 0 rfl rfl ?_
    refine st_cV C (k_X2_push l G (v := v) (v1 := v1) (nx := nx) (sz := sz) (u := u) (u1 := u1) (u2 := u2) (rs := rs) (rl := rl) (rd := rd) (p := p) (q1 := q1) (q2 := q2) (ns := ns) (lk := lk) (ld := ld) hnx9 hj9) mf_X2_push mi_X2_push ml_RX5_59 (dk DX5_stand_0 12 rfl) [4, 5, 6, 7, 8, 9, 10, 11, 12, 13, 14, 15, 16, 17, 18, 19, 20, 21, 22, 23, 1, 2, 3] (hC_cons rfl (hC_cons rfl (hC_cons rfl (hC_cons rfl (hC_cons rfl (hC_cons rfl (hC_cons rfl (hC_cons rfl (hC_cons rfl (hC_cons rfl (hC_cons rfl (hC_cons rfl (hC_cons rfl (hC_cons rfl (hC_cons rfl (hC_cons rfl (hC_cons rfl (hC_cons rfl (hC_cons rfl (hC_cons rfl (hC_cons rfl (hC_cons rfl (hC_cons rfl (hC_nil)))))))))))))))))))))))) (by decide +kernel) rfl rfl (Nat.le_of_ble_eq_true rfl) rfl rfl ⟨Nat.le_of_ble_eq_true rfl, Nat.le_of_ble_eq_true rfl⟩ ⟨Nat.zero_le _, Nat.zero_le _⟩ (fun r9 w9 hq9 => ?_)
    obtain ⟨rfl, lk25, ld25, hlk25, hld25, rfl⟩ := hq9
    simp only [put_cons, put_nil, List.set_cons_zero, List.set_cons_succ]
    refine st_aload_n C (dk DX5_stand_0 13 rfl) rfl ?_
    refine st_get C fl_RX5_10 (dk DX5_stand_0 14 rfl) 0 rfl rfl ?_
    refine st_get C fl_RX5_78 (dk DX5_stand_0 15 rfl) 1 rfl rfl ?_
    refine st_cS C (k_X0_cellOf l G) mf_X0_cellOf ms_X0_cellOf ml_RX5_109 (dk DX5_stand_0 16 rfl) [] rfl rfl rfl rfl (Nat.le_of_ble_eq_true rfl) ⟨Nat.le_of_ble_eq_true rfl, Nat.le_of_ble_eq_true rfl⟩ ⟨Nat.zero_le _, Nat.zero_le _⟩ (fun r9 w9 hq9 => ?_)
    obtain ⟨rfl, rfl⟩ := hq9
    show P _ _ _ _ _ [_, _, _, _, _, _, _, _, _, _, _, _, _, _, _, _, _, _, _, _, _, _, _, _]
    refine st_istore_n C (dk DX5_stand_0 17 rfl) (by decide) rfl ?_
    refine st_aload_n C (dk DX5_stand_0 18 rfl) rfl ?_
    refine st_get C fl_RX5_10 (dk DX5_stand_0 19 rfl) 0 rfl rfl ?_
    refine st_aload_n C (dk DX5_stand_0 20 rfl) rfl ?_
    refine st_get C fl_RX5_10 (dk DX5_stand_0 21 rfl) 0 rfl rfl ?_
    refine st_get C fl_RX5_78 (dk DX5_stand_0 22 rfl) 1 rfl rfl ?_
    refine st_iload_n C (dk DX5_stand_0 23 rfl) rfl ?_
    refine st_cS C (k_X0_movedTo l G) mf_X0_movedTo ms_X0_movedTo ml_RX5_114 (dk DX5_stand_0 24 rfl) [] rfl rfl rfl rfl (Nat.le_of_ble_eq_true rfl) ⟨Nat.le_of_ble_eq_true rfl, Nat.le_of_ble_eq_true rfl⟩ ⟨Nat.zero_le _, Nat.zero_le _⟩ (fun r9 w9 hq9 => ?_)
    obtain ⟨rfl, rfl⟩ := hq9
    show P _ _ _ _ _ [_, _, _, _, _, _, _, _, _, _, _, _, _, _, _, _, _, _, _, _, _, _, _, _]
    refine st_put C fl_RX5_78 fc_0 fw_0_4 (dk DX5_stand_0 25 rfl) 1 rfl rfl rfl (Nat.le_of_ble_eq_true rfl) ?_
    refine st_iload_n C (dk DX5_stand_0 26 rfl) rfl ?_
    exact Rr 0 0 _ _ _ _ _ _ (Nat.zero_le _) (Nat.zero_le _) (dk DX5_stand_0 27 rfl) (.inr (.inl ⟨_, rfl, rfl, rfl, rfl⟩)) rfl ⟨rfl, ⟨j, hj, rfl, by rw [hC.co], mk7 (ns 0) (ns 1) (rMov (ns 2) (nI j)) (ns 3) (ns 4) (ns 5) (ns 6), lk, ld, _, _, va_up rs j9 ns, va_up rl j9 lk25, va_up rd j9 ld25, hC.stand (by omega), hSv.push2 (hC.copy hlk25 hld25) hj9 hnx9, rfl⟩⟩
  · exact Tr _ _ _ _ _ _ _ _ _ _ _ tf_44 sr_74 (Nat.le_of_ble_eq_true rfl) (Nat.le_of_ble_eq_true rfl) (dk DX5_stand_0 3 rfl) (dk DX5_stand_0 4 rfl) (dk DX5_stand_0 5 rfl) (dk DX5_stand_0 6 rfl) (dk DX5_stand_0 7 rfl) (Nat.le_of_ble_eq_true rfl) rfl (⟨rfl, rIn_t (n := 15) (by decide) rfl c_4, rfl⟩)
set_option maxHeartbeats 4000000 in
set_option maxRecDepth 100000 in
theorem k_X5_step (l : Launch) (G : wG) (hlt : l.stackTraces = false) {K p q1 q2 o v v1 t y : Nat} {s : mS} {ns lk ld : Nat → Int32} {u u1 u2 : Nat → Nat} {nx sz : Int32} {rs rl rd : Nat → Nat → Int32} {k : Nat} {pp : Nat → mS} {x : Int32} (hC : CRep s ns lk ld) (hSv : SvR k pp nx sz rs rl rd) : ConX l G yX5_step cX5_step 2 (some .int) 6 1 6 [.ref K, .int x] [(K, ob 4 (kF p o v t y)), (p, ob 0 (cR q1 q2 ns)), (q1, aI G 15 lk), (q2, aI G 16 ld), (v, ob 1 (vF v1 nx sz)), (v1, aQ G 6 (fun k => some (u k))), (u 0, ob 0 (cR (u1 0) (u2 0) (rs 0))), (u1 0, aI G 15 (rl 0)), (u2 0, aI G 16 (rd 0)), (u 1, ob 0 (cR (u1 1) (u2 1) (rs 1))), (u1 1, aI G 15 (rl 1)), (u2 1, aI G 16 (rd 1)), (u 2, ob 0 (cR (u1 2) (u2 2) (rs 2))), (u1 2, aI G 15 (rl 2)), (u2 2, aI G 16 (rd 2)), (u 3, ob 0 (cR (u1 3) (u2 3) (rs 3))), (u1 3, aI G 15 (rl 3)), (u2 3, aI G 16 (rd 3)), (u 4, ob 0 (cR (u1 4) (u2 4) (rs 4))), (u1 4, aI G 15 (rl 4)), (u2 4, aI G 16 (rd 4)), (u 5, ob 0 (cR (u1 5) (u2 5) (rs 5))), (u1 5, aI G 15 (rl 5)), (u2 5, aI G 16 (rd 5))] (fun r w1 w2 => w2 = [] ∧ (∃ st, st ≤ 4 ∧ x = nI st ∧ refN s st = 0 ∧ r = some (.int (nI (goN s st 1))) ∧ ∃ (ns9 lk9 ld9 : Nat → Int32) (nx9 sz9 : Int32) (rs9 rl9 rd9 : Nat → Nat → Int32), CRep (goN s st) ns9 lk9 ld9 ∧ SvR (svK k) (svP s k pp) nx9 sz9 rs9 rl9 rd9 ∧ w1 = [(K, ob 4 (kF p o v t y)), (p, ob 0 (cR q1 q2 ns9)), (q1, aI G 15 lk9), (q2, aI G 16 ld9), (v, ob 1 (vF v1 nx9 sz9)), (v1, aQ G 6 (fun k => some (u k))), (u 0, ob 0 (cR (u1 0) (u2 0) (rs9 0))), (u1 0, aI G 15 (rl9 0)), (u2 0, aI G 16 (rd9 0)), (u 1, ob 0 (cR (u1 1) (u2 1) (rs9 1))), (u1 1, aI G 15 (rl9 1)), (u2 1, aI G 16 (rd9 1)), (u 2, ob 0 (cR (u1 2) (u2 2) (rs9 2))), (u1 2, aI G 15 (rl9 2)), (u2 2, aI G 16 (rd9 2)), (u 3, ob 0 (cR (u1 3) (u2 3) (rs9 3))), (u1 3, aI G 15 (rl9 3)), (u2 3, aI G 16 (rd9 3)), (u 4, ob 0 (cR (u1 4) (u2 4) (rs9 4))), (u1 4, aI G 15 (rl9 4)), (u2 4, aI G 16 (rd9 4)), (u 5, ob 0 (cR (u1 5) (u2 5) (rs9 5))), (u1 5, aI G 15 (rl9 5)), (u2 5, aI G 16 (rd9 5))])) (fun E w1 => (E = xIA ∧ ¬ isN x 4 ∧ w1 = [(K, ob 4 (kF p o v t y)), (p, ob 0 (cR q1 q2 ns)), (q1, aI G 15 lk), (q2, aI G 16 ld), (v, ob 1 (vF v1 nx sz)), (v1, aQ G 6 (fun k => some (u k))), (u 0, ob 0 (cR (u1 0) (u2 0) (rs 0))), (u1 0, aI G 15 (rl 0)), (u2 0, aI G 16 (rd 0)), (u 1, ob 0 (cR (u1 1) (u2 1) (rs 1))), (u1 1, aI G 15 (rl 1)), (u2 1, aI G 16 (rd 1)), (u 2, ob 0 (cR (u1 2) (u2 2) (rs 2))), (u1 2, aI G 15 (rl 2)), (u2 2, aI G 16 (rd 2)), (u 3, ob 0 (cR (u1 3) (u2 3) (rs 3))), (u1 3, aI G 15 (rl 3)), (u2 3, aI G 16 (rd 3)), (u 4, ob 0 (cR (u1 4) (u2 4) (rs 4))), (u1 4, aI G 15 (rl 4)), (u2 4, aI G 16 (rd 4)), (u 5, ob 0 (cR (u1 5) (u2 5) (rs 5))), (u1 5, aI G 15 (rl 5)), (u2 5, aI G 16 (rd 5))]) ∨ (E = xIS ∧ ∃ st, st ≤ 4 ∧ x = nI st ∧ 0 < refN s st ∧ w1 = [(K, ob 4 (kF p o v t y)), (p, ob 0 (cR q1 q2 ns)), (q1, aI G 15 lk), (q2, aI G 16 ld), (v, ob 1 (vF v1 nx sz)), (v1, aQ G 6 (fun k => some (u k))), (u 0, ob 0 (cR (u1 0) (u2 0) (rs 0))), (u1 0, aI G 15 (rl 0)), (u2 0, aI G 16 (rd 0)), (u 1, ob 0 (cR (u1 1) (u2 1) (rs 1))), (u1 1, aI G 15 (rl 1)), (u2 1, aI G 16 (rd 1)), (u 2, ob 0 (cR (u1 2) (u2 2) (rs 2))), (u1 2, aI G 15 (rl 2)), (u2 2, aI G 16 (rd 2)), (u 3, ob 0 (cR (u1 3) (u2 3) (rs 3))), (u1 3, aI G 15 (rl 3)), (u2 3, aI G 16 (rd 3)), (u 4, ob 0 (cR (u1 4) (u2 4) (rs 4))), (u1 4, aI G 15 (rl 4)), (u2 4, aI G 16 (rd 4)), (u 5, ob 0 (cR (u1 5) (u2 5) (rs 5))), (u1 5, aI G 15 (rl 5)), (u2 5, aI G 16 (rd 5))])) := by
  refine ConX.mk hlt (Nat.le_of_ble_eq_true rfl) (by decide +kernel) (Nat.le_of_ble_eq_true rfl) (fun P C Rr Tr => ?_)
  refine st_iload_n C (dk DX5_step_0 0 rfl) rfl ?_
  refine st_cS C (k_X5_isStep l G) mf_X5_isStep ms_X5_isStep ml_RX5_117 (dk DX5_step_0 1 rfl) [] rfl rfl rfl rfl (Nat.le_of_ble_eq_true rfl) ⟨Nat.le_of_ble_eq_true rfl, Nat.le_of_ble_eq_true rfl⟩ ⟨Nat.zero_le _, Nat.zero_le _⟩ (fun r9 w9 hq9 => ?_)
  obtain ⟨rfl, rfl⟩ := hq9
  show P _ _ _ _ _ [_, _, _, _, _, _, _, _, _, _, _, _, _, _, _, _, _, _, _, _, _, _, _, _]
  refine st_if_ne C (tgt := 17) (dk DX5_step_0 2 rfl) (by decide) (fun c_4 => ?_) (fun c_4 => ?_)
  · obtain ⟨st, hst, rfl⟩ := rIn_f (n := 4) (by decide) rfl c_4
    obtain ⟨j9, hj9, hnx9, -⟩ := id hSv
    have hrl := refN_le s st
    refine st_aload_n C (dk DX5_step_0 8 rfl) rfl ?_
    refine st_get C fl_RX5_10 (dk DX5_step_0 9 rfl) 0 rfl rfl ?_
    refine st_iload_n C (dk DX5_step_0 10 rfl) rfl ?_
    refine st_cV C (k_X1_reasonAgainst l G) mf_X1_reasonAgainst mi_X1_reasonAgainst ml_RX5_122 (dk DX5_step_0 11 rfl) [1, 2, 3] rfl rfl rfl rfl (Nat.le_of_ble_eq_true rfl) rfl rfl ⟨Nat.le_of_ble_eq_true rfl, Nat.le_of_ble_eq_true rfl⟩ ⟨Nat.zero_le _, Nat.zero_le _⟩ (fun r9 w9 hq9 => ?_)
    obtain ⟨rfl, rfl⟩ := hq9
    show P _ _ _ _ _ [_, _, _, _, _, _, _, _, _, _, _, _, _, _, _, _, _, _, _, _, _, _, _, _]
    rw [hC.reas (by omega)]
    refine st_if_eq C (tgt := 38) (dk DX5_step_0 12 rfl) (by decide) (fun c_25 => ?_) (fun c_25 => ?_)
    · have hr0 : refN s st = 0 := (z5 (by omega)).mp c_25
      refine st_aload_n C (dk DX5_step_0 18 rfl) rfl ?_
      refine st_get C fl_RX5_22 (dk DX5_step_0 19 rfl) 0 rfl rfl ?_
      refine st_aload_n C (dk DX5_step_0 20 rfl) rfl ?_
      refine st_get C fl_RX5_10 (dk DX5_step_0 21 rfl) 0 rfl rfl ?_
      refine st_cV C (k_X2_push l G (v := v) (v1 := v1) (nx := nx) (sz := sz) (u := u) (u1 := u1) (u2 := u2) (rs := rs) (rl := rl) (rd := rd) (p := p) (q1 := q1) (q2 := q2) (ns := ns) (lk := lk) (ld := ld) hnx9 hj9) mf_X2_push mi_X2_push ml_RX5_59 (dk DX5_step_0 22 rfl) [4, 5, 6, 7, 8, 9, 10, 11, 12, 13, 14, 15, 16, 17, 18, 19, 20, 21, 22, 23, 1, 2, 3] (hC_cons rfl (hC_cons rfl (hC_cons rfl (hC_cons rfl (hC_cons rfl (hC_cons rfl (hC_cons rfl (hC_cons rfl (hC_cons rfl (hC_cons rfl (hC_cons rfl (hC_cons rfl (hC_cons rfl (hC_cons rfl (hC_cons rfl (hC_cons rfl (hC_cons rfl (hC_cons rfl (hC_cons rfl (hC_cons rfl (hC_cons rfl (hC_cons rfl (hC_cons rfl (hC_nil)))))))))))))))))))))))) (by decide +kernel) rfl rfl (Nat.le_of_ble_eq_true rfl) rfl rfl ⟨Nat.le_of_ble_eq_true rfl, Nat.le_of_ble_eq_true rfl⟩ ⟨Nat.zero_le _, Nat.zero_le _⟩ (fun r9 w9 hq9 => ?_)
      obtain ⟨rfl, lk46, ld46, hlk46, hld46, rfl⟩ := hq9
      simp only [put_cons, put_nil, List.set_cons_zero, List.set_cons_succ]
      refine st_aload_n C (dk DX5_step_0 23 rfl) rfl ?_
      refine st_get C fl_RX5_10 (dk DX5_step_0 24 rfl) 0 rfl rfl ?_
      refine st_iload_n C (dk DX5_step_0 25 rfl) rfl ?_
      refine st_cV C (k_X1_take l G) mf_X1_take mi_X1_take ml_RX5_127 (dk DX5_step_0 26 rfl) [1, 2, 3] rfl rfl rfl rfl (Nat.le_of_ble_eq_true rfl) rfl rfl ⟨Nat.le_of_ble_eq_true rfl, Nat.le_of_ble_eq_true rfl⟩ ⟨Nat.zero_le _, Nat.zero_le _⟩ (fun r9 w9 hq9 => ?_)
      obtain ⟨rfl, rfl⟩ := hq9
      show P _ _ _ _ _ [_, _, _, _, _, _, _, _, _, _, _, _, _, _, _, _, _, _, _, _, _, _, _, _]
      obtain ⟨ns9, e9, h9⟩ := hC.take (st := st) (by omega) hr0 q1 q2
      rw [e9]
      refine st_aload_n C (dk DX5_step_0 27 rfl) rfl ?_
      refine st_get C fl_RX5_10 (dk DX5_step_0 28 rfl) 0 rfl rfl ?_
      refine st_get C fl_RX5_78 (dk DX5_step_0 29 rfl) 1 rfl rfl ?_
      refine st_cS C (k_X0_cellOf l G) mf_X0_cellOf ms_X0_cellOf ml_RX5_109 (dk DX5_step_0 30 rfl) [] rfl rfl rfl rfl (Nat.le_of_ble_eq_true rfl) ⟨Nat.le_of_ble_eq_true rfl, Nat.le_of_ble_eq_true rfl⟩ ⟨Nat.zero_le _, Nat.zero_le _⟩ (fun r9 w9 hq9 => ?_)
      obtain ⟨rfl, rfl⟩ := hq9
      show P _ _ _ _ _ [_, _, _, _, _, _, _, _, _, _, _, _, _, _, _, _, _, _, _, _, _, _, _, _]
      exact Rr 0 0 _ _ _ _ _ _ (Nat.zero_le _) (Nat.zero_le _) (dk DX5_step_0 31 rfl) (.inr (.inl ⟨_, rfl, rfl, rfl, rfl⟩)) rfl ⟨rfl, ⟨st, hst, rfl, hr0, by rw [h9.co], ns9, lk, ld, _, _, va_up rs j9 ns, va_up rl j9 lk46, va_up rd j9 ld46, h9, hSv.push2 (hC.copy hlk46 hld46) hj9 hnx9, rfl⟩⟩
    · exact Tr _ _ _ _ _ _ _ _ _ _ _ tf_90 sr_125 (Nat.le_of_ble_eq_true rfl) (Nat.le_of_ble_eq_true rfl) (dk DX5_step_0 13 rfl) (dk DX5_step_0 14 rfl) (dk DX5_step_0 15 rfl) (dk DX5_step_0 16 rfl) (dk DX5_step_0 17 rfl) (Nat.le_of_ble_eq_true rfl) rfl (Or.inr ⟨rfl, st, hst, rfl, by have := mt (z5 (by omega)).mpr c_25; omega, rfl⟩)
  · exact Tr _ _ _ _ _ _ _ _ _ _ _ tf_54 sr_120 (Nat.le_of_ble_eq_true rfl) (Nat.le_of_ble_eq_true rfl) (dk DX5_step_0 3 rfl) (dk DX5_step_0 4 rfl) (dk DX5_step_0 5 rfl) (dk DX5_step_0 6 rfl) (dk DX5_step_0 7 rfl) (Nat.le_of_ble_eq_true rfl) rfl (Or.inl ⟨rfl, rIn_t (n := 4) (by decide) rfl c_4, rfl⟩)
