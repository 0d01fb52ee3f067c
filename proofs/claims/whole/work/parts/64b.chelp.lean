/-! the landed class: its private methods, 2 -/
set_option maxHeartbeats 4000000 in
set_option maxRecDepth 100000 in
theorem k_X5_reachedWithDoor (l : Launch) (G : wG) {K p q1 q2 o o1 o2 v t t1 t2 t3 t4 y : Nat} {s : mS} {ns lk ld : Nat → Int32} {os olk old : Nat → Int32} {zz rc : Int32} {en : Nat → Int32} {sn : Nat → Int64} {nd ln : Nat → Int32} {x z : Int32} {j i : Nat} (hC : CRep s ns lk ld) (hx : x = nI j) (hj : j ≤ 14) (hz : z = nI i) (hi : i ≤ 5) : Con0 l G yX5_reachedWithDoor cX5_reachedWithDoor 3 (some .int) 5 [.ref K, .int x, .int z] [(K, ob 4 (kF p o v t y)), (p, ob 0 (cR q1 q2 ns)), (q1, aI G 15 lk), (q2, aI G 16 ld), (o, ob 0 (cR o1 o2 os)), (o1, aI G 15 olk), (o2, aI G 16 old), (t, ob 2 (sF t1 t2 t3 t4 zz rc)), (t1, aI G 4624 en), (t2, aJ G 256 sn), (t3, aI G 16 nd), (t4, aI G 16 ln)] (fun r w => r = some (.int (nI (cnt (fS (updS s (22 + j) i)) 16))) ∧ ∃ (os9 olk9 old9 : Nat → Int32) (zz9 rc9 : Int32) (en9 : Nat → Int32) (sn9 : Nat → Int64) (nd9 ln9 : Nat → Int32), w = [(K, ob 4 (kF p o v t y)), (p, ob 0 (cR q1 q2 ns)), (q1, aI G 15 lk), (q2, aI G 16 ld), (o, ob 0 (cR o1 o2 os9)), (o1, aI G 15 olk9), (o2, aI G 16 old9), (t, ob 2 (sF t1 t2 t3 t4 zz9 rc9)), (t1, aI G 4624 en9), (t2, aJ G 256 sn9), (t3, aI G 16 nd9), (t4, aI G 16 ln9)]) := by
  refine Con.mk (by decide +kernel) (Nat.le_of_ble_eq_true rfl) (fun P C Rr => ?_)
  subst hx
  subst hz
  refine st_aload_n C (dk DX5_reachedWithDoor_0 0 rfl) rfl ?_
  refine st_get C fl_RX5_16 (dk DX5_reachedWithDoor_0 1 rfl) 0 rfl rfl ?_
  refine st_aload_n C (dk DX5_reachedWithDoor_0 2 rfl) rfl ?_
  refine st_get C fl_RX5_10 (dk DX5_reachedWithDoor_0 3 rfl) 0 rfl rfl ?_
  refine st_cV C (k_X1_copyFrom l G) mf_X1_copyFrom mi_X1_copyFrom ml_RX5_158 (dk DX5_reachedWithDoor_0 4 rfl) [4, 5, 6, 1, 2, 3] rfl rfl rfl rfl (Nat.le_of_ble_eq_true rfl) rfl rfl ⟨Nat.le_of_ble_eq_true rfl, Nat.le_of_ble_eq_true rfl⟩ ⟨Nat.zero_le _, Nat.zero_le _⟩ (fun r9 w9 hq9 => ?_)
  obtain ⟨rfl, lk8, ld8, hlk8, hld8, rfl⟩ := hq9
  show P _ _ _ _ _ [_, _, _, _, _, _, _, _, _, _, _, _]
  refine st_aload_n C (dk DX5_reachedWithDoor_0 5 rfl) rfl ?_
  refine st_get C fl_RX5_16 (dk DX5_reachedWithDoor_0 6 rfl) 0 rfl rfl ?_
  refine st_iload_n C (dk DX5_reachedWithDoor_0 7 rfl) rfl ?_
  refine st_iload_n C (dk DX5_reachedWithDoor_0 8 rfl) rfl ?_
  refine st_cV C (k_X1_setLock l G) mf_X1_setLock mi_X1_setLock ml_RX5_67 (dk DX5_reachedWithDoor_0 9 rfl) [4, 5] rfl rfl rfl rfl (Nat.le_of_ble_eq_true rfl) rfl rfl ⟨Nat.le_of_ble_eq_true rfl, Nat.le_of_ble_eq_true rfl⟩ ⟨Nat.zero_le _, Nat.zero_le _⟩ (fun r9 w9 hq9 => ?_)
  obtain ⟨rfl, rfl⟩ := hq9
  show P _ _ _ _ _ [_, _, _, _, _, _, _, _, _, _, _, _]
  have h9 := (hC.copy hlk8 hld8).setLock hj hi
  obtain ⟨ec, g1, g2, g3⟩ := h9.srch
  refine st_aload_n C (dk DX5_reachedWithDoor_0 10 rfl) rfl ?_
  refine st_get C fl_RX5_29 (dk DX5_reachedWithDoor_0 11 rfl) 0 rfl rfl ?_
  refine st_aload_n C (dk DX5_reachedWithDoor_0 12 rfl) rfl ?_
  refine st_get C fl_RX5_16 (dk DX5_reachedWithDoor_0 13 rfl) 0 rfl rfl ?_
  refine st_cV C (k_X3_run l G g1 g2 g3) mf_X3_run mi_X3_run ml_RX5_131 (dk DX5_reachedWithDoor_0 14 rfl) [7, 8, 9, 10, 11, 4, 5, 6] rfl rfl rfl rfl (Nat.le_of_ble_eq_true rfl) rfl rfl ⟨Nat.le_of_ble_eq_true rfl, Nat.le_of_ble_eq_true rfl⟩ ⟨Nat.zero_le _, Nat.zero_le _⟩ (fun r9 w9 hq9 => ?_)
  obtain ⟨rfl, sz28, rc28, en28, sn28, nd28, ln28, hres28, rfl⟩ := hq9
  simp only [put_cons, put_nil, List.set_cons_zero, List.set_cons_succ]
  refine st_aload_n C (dk DX5_reachedWithDoor_0 15 rfl) rfl ?_
  refine st_get C fl_RX5_29 (dk DX5_reachedWithDoor_0 16 rfl) 0 rfl rfl ?_
  refine st_get C fl_RX5_193 (dk DX5_reachedWithDoor_0 17 rfl) 7 rfl rfl ?_
  exact Rr 0 0 _ _ _ _ _ _ (Nat.zero_le _) (Nat.zero_le _) (dk DX5_reachedWithDoor_0 18 rfl) (.inr (.inl ⟨_, rfl, rfl, rfl, rfl⟩)) rfl ⟨rfl, ⟨congrArg (fun z => some (Value.int z)) hres28.1, ns, _, _, _, _, _, _, _, _, rfl⟩⟩
set_option maxHeartbeats 4000000 in
set_option maxRecDepth 100000 in
theorem k_X5_reachedWithoutKey (l : Launch) (G : wG) {K p q1 q2 o o1 o2 v t t1 t2 t3 t4 y : Nat} {s : mS} {ns lk ld : Nat → Int32} {os olk old : Nat → Int32} {zz rc : Int32} {en : Nat → Int32} {sn : Nat → Int64} {nd ln : Nat → Int32} {x : Int32} {j : Nat} (hC : CRep s ns lk ld) (hx : x = nI j) (hj : j ≤ 15) : Con0 l G yX5_reachedWithoutKey cX5_reachedWithoutKey 2 (some .int) 5 [.ref K, .int x] [(K, ob 4 (kF p o v t y)), (p, ob 0 (cR q1 q2 ns)), (q1, aI G 15 lk), (q2, aI G 16 ld), (o, ob 0 (cR o1 o2 os)), (o1, aI G 15 olk), (o2, aI G 16 old), (t, ob 2 (sF t1 t2 t3 t4 zz rc)), (t1, aI G 4624 en), (t2, aJ G 256 sn), (t3, aI G 16 nd), (t4, aI G 16 ln)] (fun r w => r = some (.int (nI (cnt (fS (updS s (6 + j) 0)) 16))) ∧ ∃ (os9 olk9 old9 : Nat → Int32) (zz9 rc9 : Int32) (en9 : Nat → Int32) (sn9 : Nat → Int64) (nd9 ln9 : Nat → Int32), w = [(K, ob 4 (kF p o v t y)), (p, ob 0 (cR q1 q2 ns)), (q1, aI G 15 lk), (q2, aI G 16 ld), (o, ob 0 (cR o1 o2 os9)), (o1, aI G 15 olk9), (o2, aI G 16 old9), (t, ob 2 (sF t1 t2 t3 t4 zz9 rc9)), (t1, aI G 4624 en9), (t2, aJ G 256 sn9), (t3, aI G 16 nd9), (t4, aI G 16 ln9)]) := by
  refine Con.mk (by decide +kernel) (Nat.le_of_ble_eq_true rfl) (fun P C Rr => ?_)
  subst hx
  refine st_aload_n C (dk DX5_reachedWithoutKey_0 0 rfl) rfl ?_
  refine st_get C fl_RX5_16 (dk DX5_reachedWithoutKey_0 1 rfl) 0 rfl rfl ?_
  refine st_aload_n C (dk DX5_reachedWithoutKey_0 2 rfl) rfl ?_
  refine st_get C fl_RX5_10 (dk DX5_reachedWithoutKey_0 3 rfl) 0 rfl rfl ?_
  refine st_cV C (k_X1_copyFrom l G) mf_X1_copyFrom mi_X1_copyFrom ml_RX5_158 (dk DX5_reachedWithoutKey_0 4 rfl) [4, 5, 6, 1, 2, 3] rfl rfl rfl rfl (Nat.le_of_ble_eq_true rfl) rfl rfl ⟨Nat.le_of_ble_eq_true rfl, Nat.le_of_ble_eq_true rfl⟩ ⟨Nat.zero_le _, Nat.zero_le _⟩ (fun r9 w9 hq9 => ?_)
  obtain ⟨rfl, lk8, ld8, hlk8, hld8, rfl⟩ := hq9
  show P _ _ _ _ _ [_, _, _, _, _, _, _, _, _, _, _, _]
  refine st_aload_n C (dk DX5_reachedWithoutKey_0 5 rfl) rfl ?_
  refine st_get C fl_RX5_16 (dk DX5_reachedWithoutKey_0 6 rfl) 0 rfl rfl ?_
  refine st_iload_n C (dk DX5_reachedWithoutKey_0 7 rfl) rfl ?_
  refine st_iconst C (v := 0) (dk DX5_reachedWithoutKey_0 8 rfl) (by decide) ?_
  refine st_cV C (k_X1_putKey l G) mf_X1_putKey mi_X1_putKey ml_RX5_95 (dk DX5_reachedWithoutKey_0 9 rfl) [4] rfl rfl rfl rfl (Nat.le_of_ble_eq_true rfl) rfl rfl ⟨Nat.le_of_ble_eq_true rfl, Nat.le_of_ble_eq_true rfl⟩ ⟨Nat.zero_le _, Nat.zero_le _⟩ (fun r9 w9 hq9 => ?_)
  obtain ⟨rfl, rfl⟩ := hq9
  show P _ _ _ _ _ [_, _, _, _, _, _, _, _, _, _, _, _]
  obtain ⟨ns9, e9, h9⟩ := (hC.copy hlk8 hld8).put (c := j) (v := 0) (by omega) (by omega) (Or.inl rfl) o1 o2
  rw [show rPut o1 o2 (ns 0) (ns 1) (ns 2) (ns 3) (ns 4) (ns 5) (ns 6) (nI j) 0 = cR o1 o2 ns9 from e9]
  obtain ⟨ec, g1, g2, g3⟩ := h9.srch
  refine st_aload_n C (dk DX5_reachedWithoutKey_0 10 rfl) rfl ?_
  refine st_get C fl_RX5_29 (dk DX5_reachedWithoutKey_0 11 rfl) 0 rfl rfl ?_
  refine st_aload_n C (dk DX5_reachedWithoutKey_0 12 rfl) rfl ?_
  refine st_get C fl_RX5_16 (dk DX5_reachedWithoutKey_0 13 rfl) 0 rfl rfl ?_
  refine st_cV C (k_X3_run l G g1 g2 g3) mf_X3_run mi_X3_run ml_RX5_131 (dk DX5_reachedWithoutKey_0 14 rfl) [7, 8, 9, 10, 11, 4, 5, 6] rfl rfl rfl rfl (Nat.le_of_ble_eq_true rfl) rfl rfl ⟨Nat.le_of_ble_eq_true rfl, Nat.le_of_ble_eq_true rfl⟩ ⟨Nat.zero_le _, Nat.zero_le _⟩ (fun r9 w9 hq9 => ?_)
  obtain ⟨rfl, sz28, rc28, en28, sn28, nd28, ln28, hres28, rfl⟩ := hq9
  simp only [put_cons, put_nil, List.set_cons_zero, List.set_cons_succ]
  refine st_aload_n C (dk DX5_reachedWithoutKey_0 15 rfl) rfl ?_
  refine st_get C fl_RX5_29 (dk DX5_reachedWithoutKey_0 16 rfl) 0 rfl rfl ?_
  refine st_get C fl_RX5_193 (dk DX5_reachedWithoutKey_0 17 rfl) 7 rfl rfl ?_
  exact Rr 0 0 _ _ _ _ _ _ (Nat.zero_le _) (Nat.zero_le _) (dk DX5_reachedWithoutKey_0 18 rfl) (.inr (.inl ⟨_, rfl, rfl, rfl, rfl⟩)) rfl ⟨rfl, ⟨congrArg (fun z => some (Value.int z)) hres28.1, ns9, _, _, _, _, _, _, _, _, rfl⟩⟩
