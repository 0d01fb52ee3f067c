/-! the landed class: looks, and what would be -/
theorem isN_le {x hi : Int32} {n : Nat} (hn : n < 2 ^ 31) (hh : hi = nI n) (h1 : ¬ x < 0) (h2 : x ≤ hi) : isN x n := by
  obtain ⟨j, -, h3, h4⟩ := isR_le (a := 0) (n := n) (by decide) hn (lo := 0) rfl hh h1 h2
  exact ⟨j, h3, h4⟩
theorem isN_neg {x : Int32} {n : Nat} (hn : n < 2 ^ 31) (h : x < 0) : ¬ isN x n := by
  rintro ⟨j, hj, rfl⟩
  exact nI_pos (by omega) h
theorem isN_nle {x hi : Int32} {n : Nat} (hn : n < 2 ^ 31) (hh : hi = nI n) (h : ¬ x ≤ hi) : ¬ isN x n := by
  rintro ⟨j, hj, rfl⟩
  subst hh
  exact h ((nI_leI (by omega) hn).mpr hj)
theorem cnt_in {Q : List bE} {c : Nat} (h : (fi Q c).isSome = true) : ∀ {n : Nat}, c < n → 0 < cnt Q n
  | 0, h0 => absurd h0 (Nat.not_lt_zero c)
  | n + 1, hc => by
    unfold cnt
    by_cases e : c = n
    · subst e; rw [if_pos h]; omega
    · have := cnt_in h (n := n) (by omega); omega
theorem cnt_pos {s : mS} (hok : mOk s) : 0 < cnt (fS s) 16 := by
  refine cnt_in (c := s 1) ?_ hok.2.2.1
  have h0 := (fS_ok hok).2.2.1
  cases hq : fi (fS s) (s 1) with
  | some i => rfl
  | none =>
    unfold fi at hq
    have := List.findIdx?_eq_none_iff.mp hq _ (List.mem_of_getElem? h0)
    simp [t0S] at this
set_option maxHeartbeats 4000000 in
set_option maxRecDepth 100000 in
theorem k_X5_cell (l : Launch) (G : wG) (hlt : l.stackTraces = false) {K p q1 q2 o v t t1 t2 t3 t4 y : Nat} {s : mS} {ns lk ld : Nat → Int32} {zz rc : Int32} {en : Nat → Int32} {sn : Nat → Int64} {nd ln : Nat → Int32} {x z : Int32} (hC : CRep s ns lk ld) : ConX l G yX5_cell cX5_cell 3 (some .int) 6 1 6 [.ref K, .int x, .int z] [(K, ob 4 (kF p o v t y)), (p, ob 0 (cR q1 q2 ns)), (q1, aI G 15 lk), (q2, aI G 16 ld), (t, ob 2 (sF t1 t2 t3 t4 zz rc)), (t1, aI G 4624 en), (t2, aJ G 256 sn), (t3, aI G 16 nd), (t4, aI G 16 ln)] (fun r w1 w2 => w2 = [] ∧ (∃ j i, j ≤ 15 ∧ i ≤ 6 ∧ x = nI j ∧ z = nI i ∧ r = some (.int (ofI s j i)) ∧ ∃ (zz9 rc9 : Int32) (en9 : Nat → Int32) (sn9 : Nat → Int64) (nd9 ln9 : Nat → Int32), w1 = [(K, ob 4 (kF p o v t y)), (p, ob 0 (cR q1 q2 ns)), (q1, aI G 15 lk), (q2, aI G 16 ld), (t, ob 2 (sF t1 t2 t3 t4 zz9 rc9)), (t1, aI G 4624 en9), (t2, aJ G 256 sn9), (t3, aI G 16 nd9), (t4, aI G 16 ln9)])) (fun E w1 => (E = xIO ∧ ¬ isN x 15 ∧ w1 = [(K, ob 4 (kF p o v t y)), (p, ob 0 (cR q1 q2 ns)), (q1, aI G 15 lk), (q2, aI G 16 ld), (t, ob 2 (sF t1 t2 t3 t4 zz rc)), (t1, aI G 4624 en), (t2, aJ G 256 sn), (t3, aI G 16 nd), (t4, aI G 16 ln)]) ∨ (E = xIA ∧ isN x 15 ∧ ¬ isN z 6 ∧ w1 = [(K, ob 4 (kF p o v t y)), (p, ob 0 (cR q1 q2 ns)), (q1, aI G 15 lk), (q2, aI G 16 ld), (t, ob 2 (sF t1 t2 t3 t4 zz rc)), (t1, aI G 4624 en), (t2, aJ G 256 sn), (t3, aI G 16 nd), (t4, aI G 16 ln)])) := by
  refine ConX.mk hlt (Nat.le_of_ble_eq_true rfl) (by decide +kernel) (Nat.le_of_ble_eq_true rfl) (fun P C Rr Tr => ?_)
  refine st_iload_n C (dk DX5_cell_0 0 rfl) rfl ?_
  refine st_cS C (k_X5_isCell l G) mf_X5_isCell ms_X5_isCell ml_RX5_71 (dk DX5_cell_0 1 rfl) [] rfl rfl rfl rfl (Nat.le_of_ble_eq_true rfl) ⟨Nat.le_of_ble_eq_true rfl, Nat.le_of_ble_eq_true rfl⟩ ⟨Nat.zero_le _, Nat.zero_le _⟩ (fun r9 w9 hq9 => ?_)
  obtain ⟨rfl, rfl⟩ := hq9
  show P _ _ _ _ _ [_, _, _, _, _, _, _, _, _]
  refine st_if_ne C (tgt := 17) (dk DX5_cell_0 2 rfl) (by decide) (fun c_4 => ?_) (fun c_4 => ?_)
  · refine st_iload_n C (dk DX5_cell_0 8 rfl) rfl ?_
    refine st_if_lt C (tgt := 27) (dk DX5_cell_0 9 rfl) (by decide) (fun c_18 => ?_) (fun c_18 => ?_)
    · exact Tr _ _ _ _ _ _ _ _ _ _ _ tf_54 sr_169 (Nat.le_of_ble_eq_true rfl) (Nat.le_of_ble_eq_true rfl) (dk DX5_cell_0 13 rfl) (dk DX5_cell_0 14 rfl) (dk DX5_cell_0 15 rfl) (dk DX5_cell_0 16 rfl) (dk DX5_cell_0 17 rfl) (Nat.le_of_ble_eq_true rfl) rfl (Or.inr ⟨rfl, rIn_f (n := 15) (by decide) rfl c_4, isN_neg (by decide) c_18, rfl⟩)
    · refine st_iload_n C (dk DX5_cell_0 10 rfl) rfl ?_
      refine st_bipush C (v := 6) (dk DX5_cell_0 11 rfl) (by decide) ?_
      refine st_icmp_le C (tgt := 37) (dk DX5_cell_0 12 rfl) (by decide) (fun c_24 => ?_) (fun c_24 => ?_)
      · obtain ⟨j, hj, rfl⟩ := rIn_f (n := 15) (by decide) rfl c_4
        obtain ⟨i, hi, rfl⟩ := isN_le (n := 6) (by decide) rfl c_18 c_24
        obtain ⟨ec, e1, e2, e3⟩ := hC.srch
        refine st_iload_n C (dk DX5_cell_0 18 rfl) rfl ?_
        refine st_bipush C (v := 6) (dk DX5_cell_0 19 rfl) (by decide) ?_
        refine st_icmp_ne C (tgt := 54) (dk DX5_cell_0 20 rfl) (by decide) (fun c_40 => ?_) (fun c_40 => ?_)
        · refine st_aload_n C (dk DX5_cell_0 26 rfl) rfl ?_
          refine st_iload_n C (dk DX5_cell_0 27 rfl) rfl ?_
          refine st_iload_n C (dk DX5_cell_0 28 rfl) rfl ?_
          refine st_cV C (k_X5_numberOfCell l G hC rfl (by omega : j < 16) rfl hi (fun e => absurd (by rw [e]; rfl) c_40)) mf_X5_numberOfCell mi_X5_numberOfCell ml_RX5_171 (dk DX5_cell_0 29 rfl) [0, 1, 2, 3, 4, 5, 6, 7, 8] rfl rfl rfl rfl (Nat.le_of_ble_eq_true rfl) rfl rfl ⟨Nat.le_of_ble_eq_true rfl, Nat.le_of_ble_eq_true rfl⟩ ⟨Nat.zero_le _, Nat.zero_le _⟩ (fun r9 w9 hq9 => ?_)
          obtain ⟨rfl, rfl⟩ := hq9
          simp only [put_cons, put_nil, List.set_cons_zero, List.set_cons_succ]
          exact Rr 0 0 _ _ _ _ _ _ (Nat.zero_le _) (Nat.zero_le _) (dk DX5_cell_0 30 rfl) (.inr (.inl ⟨_, rfl, rfl, rfl, rfl⟩)) rfl ⟨rfl, ⟨j, i, hj, hi, rfl, rfl, rfl, _, _, _, _, _, _, rfl⟩⟩
        · refine st_aload_n C (dk DX5_cell_0 21 rfl) rfl ?_
          refine st_get C fl_RX5_29 (dk DX5_cell_0 22 rfl) 0 rfl rfl ?_
          refine st_aload_n C (dk DX5_cell_0 23 rfl) rfl ?_
          refine st_get C fl_RX5_10 (dk DX5_cell_0 24 rfl) 0 rfl rfl ?_
          refine st_cV C (k_X3_run l G e1 e2 e3) mf_X3_run mi_X3_run ml_RX5_131 (dk DX5_cell_0 25 rfl) [4, 5, 6, 7, 8, 1, 2, 3] rfl rfl rfl rfl (Nat.le_of_ble_eq_true rfl) rfl rfl ⟨Nat.le_of_ble_eq_true rfl, Nat.le_of_ble_eq_true rfl⟩ ⟨Nat.zero_le _, Nat.zero_le _⟩ (fun r9 w9 hq9 => ?_)
          obtain ⟨rfl, sz51, rc51, en51, sn51, nd51, ln51, hres51, rfl⟩ := hq9
          simp only [put_cons, put_nil, List.set_cons_zero, List.set_cons_succ]
          have hSx : SRx s rc51 en51 nd51 ln51 := SRes.plan hC.1 (fun t ht => (e1.1 t ht).2.1) hres51
          refine st_aload_n C (dk DX5_cell_0 26 rfl) rfl ?_
          refine st_iload_n C (dk DX5_cell_0 27 rfl) rfl ?_
          refine st_iload_n C (dk DX5_cell_0 28 rfl) rfl ?_
          refine st_cV C (k_X5_numberOfCell l G hC rfl (by omega : j < 16) rfl hi (fun _ => hSx)) mf_X5_numberOfCell mi_X5_numberOfCell ml_RX5_171 (dk DX5_cell_0 29 rfl) [0, 1, 2, 3, 4, 5, 6, 7, 8] rfl rfl rfl rfl (Nat.le_of_ble_eq_true rfl) rfl rfl ⟨Nat.le_of_ble_eq_true rfl, Nat.le_of_ble_eq_true rfl⟩ ⟨Nat.zero_le _, Nat.zero_le _⟩ (fun r9 w9 hq9 => ?_)
          obtain ⟨rfl, rfl⟩ := hq9
          simp only [put_cons, put_nil, List.set_cons_zero, List.set_cons_succ]
          exact Rr 0 0 _ _ _ _ _ _ (Nat.zero_le _) (Nat.zero_le _) (dk DX5_cell_0 30 rfl) (.inr (.inl ⟨_, rfl, rfl, rfl, rfl⟩)) rfl ⟨rfl, ⟨j, i, hj, hi, rfl, rfl, rfl, _, _, _, _, _, _, rfl⟩⟩
      · exact Tr _ _ _ _ _ _ _ _ _ _ _ tf_54 sr_169 (Nat.le_of_ble_eq_true rfl) (Nat.le_of_ble_eq_true rfl) (dk DX5_cell_0 13 rfl) (dk DX5_cell_0 14 rfl) (dk DX5_cell_0 15 rfl) (dk DX5_cell_0 16 rfl) (dk DX5_cell_0 17 rfl) (Nat.le_of_ble_eq_true rfl) rfl (Or.inr ⟨rfl, rIn_f (n := 15) (by decide) rfl c_4, isN_nle (by decide) rfl c_24, rfl⟩)
  · exact Tr _ _ _ _ _ _ _ _ _ _ _ tf_44 sr_74 (Nat.le_of_ble_eq_true rfl) (Nat.le_of_ble_eq_true rfl) (dk DX5_cell_0 3 rfl) (dk DX5_cell_0 4 rfl) (dk DX5_cell_0 5 rfl) (dk DX5_cell_0 6 rfl) (dk DX5_cell_0 7 rfl) (Nat.le_of_ble_eq_true rfl) rfl (Or.inl ⟨rfl, rIn_t (n := 15) (by decide) rfl c_4, rfl⟩)
set_option maxHeartbeats 4000000 in
set_option maxRecDepth 100000 in
theorem k_X5_walker (l : Launch) (G : wG) (hlt : l.stackTraces = false) {K p q1 q2 o v t y : Nat} {s : mS} {ns lk ld : Nat → Int32} {x : Int32} (hC : CRep s ns lk ld) : ConX l G yX5_walker cX5_walker 2 (some .int) 6 1 6 [.ref K, .int x] [(K, ob 4 (kF p o v t y)), (p, ob 0 (cR q1 q2 ns)), (q1, aI G 15 lk), (q2, aI G 16 ld)] (fun r w1 w2 => w2 = [] ∧ (∃ j, j ≤ 4 ∧ x = nI j ∧ r = some (.int (nI (s (1 + j)))) ∧ w1 = [(K, ob 4 (kF p o v t y)), (p, ob 0 (cR q1 q2 ns)), (q1, aI G 15 lk), (q2, aI G 16 ld)])) (fun E w1 => E = xIA ∧ ¬ isN x 4 ∧ w1 = [(K, ob 4 (kF p o v t y)), (p, ob 0 (cR q1 q2 ns)), (q1, aI G 15 lk), (q2, aI G 16 ld)]) := by
  refine ConX.mk hlt (Nat.le_of_ble_eq_true rfl) (by decide +kernel) (Nat.le_of_ble_eq_true rfl) (fun P C Rr Tr => ?_)
  refine st_iload_n C (dk DX5_walker_0 0 rfl) rfl ?_
  refine st_if_lt C (tgt := 9) (dk DX5_walker_0 1 rfl) (by decide) (fun c_1 => ?_) (fun c_1 => ?_)
  · exact Tr _ _ _ _ _ _ _ _ _ _ _ tf_54 sr_174 (Nat.le_of_ble_eq_true rfl) (Nat.le_of_ble_eq_true rfl) (dk DX5_walker_0 5 rfl) (dk DX5_walker_0 6 rfl) (dk DX5_walker_0 7 rfl) (dk DX5_walker_0 8 rfl) (dk DX5_walker_0 9 rfl) (Nat.le_of_ble_eq_true rfl) rfl (⟨rfl, isN_neg (by decide) c_1, rfl⟩)
  · refine st_iload_n C (dk DX5_walker_0 2 rfl) rfl ?_
    refine st_iconst C (v := 4) (dk DX5_walker_0 3 rfl) (by decide) ?_
    refine st_icmp_le C (tgt := 19) (dk DX5_walker_0 4 rfl) (by decide) (fun c_6 => ?_) (fun c_6 => ?_)
    · obtain ⟨j, hj, rfl⟩ := isN_le (n := 4) (by decide) rfl c_1 c_6
      refine st_aload_n C (dk DX5_walker_0 10 rfl) rfl ?_
      refine st_iload_n C (dk DX5_walker_0 11 rfl) rfl ?_
      refine st_cV C (k_X5_numberOfWalker l G hC rfl hj) mf_X5_numberOfWalker mi_X5_numberOfWalker ml_RX5_176 (dk DX5_walker_0 12 rfl) [0, 1, 2, 3] rfl rfl rfl rfl (Nat.le_of_ble_eq_true rfl) rfl rfl ⟨Nat.le_of_ble_eq_true rfl, Nat.le_of_ble_eq_true rfl⟩ ⟨Nat.zero_le _, Nat.zero_le _⟩ (fun r9 w9 hq9 => ?_)
      obtain ⟨rfl, rfl⟩ := hq9
      show P _ _ _ _ _ [_, _, _, _]
      exact Rr 0 0 _ _ _ _ _ _ (Nat.zero_le _) (Nat.zero_le _) (dk DX5_walker_0 13 rfl) (.inr (.inl ⟨_, rfl, rfl, rfl, rfl⟩)) rfl ⟨rfl, ⟨j, hj, rfl, rfl, rfl⟩⟩
    · exact Tr _ _ _ _ _ _ _ _ _ _ _ tf_54 sr_174 (Nat.le_of_ble_eq_true rfl) (Nat.le_of_ble_eq_true rfl) (dk DX5_walker_0 5 rfl) (dk DX5_walker_0 6 rfl) (dk DX5_walker_0 7 rfl) (dk DX5_walker_0 8 rfl) (dk DX5_walker_0 9 rfl) (Nat.le_of_ble_eq_true rfl) rfl (⟨rfl, isN_nle (by decide) rfl c_6, rfl⟩)
set_option maxHeartbeats 4000000 in
set_option maxRecDepth 100000 in
theorem k_X5_plan (l : Launch) (G : wG) (hlt : l.stackTraces = false) {K p q1 q2 o v t t1 t2 t3 t4 y : Nat} {s : mS} {ns lk ld : Nat → Int32} {zz rc : Int32} {en : Nat → Int32} {sn : Nat → Int64} {nd ln : Nat → Int32} {x z : Int32} (hC : CRep s ns lk ld) : ConX l G yX5_plan cX5_plan 3 (some .int) 6 1 6 [.ref K, .int x, .int z] [(K, ob 4 (kF p o v t y)), (p, ob 0 (cR q1 q2 ns)), (q1, aI G 15 lk), (q2, aI G 16 ld), (t, ob 2 (sF t1 t2 t3 t4 zz rc)), (t1, aI G 4624 en), (t2, aJ G 256 sn), (t3, aI G 16 nd), (t4, aI G 16 ln)] (fun r w1 w2 => w2 = [] ∧ (∃ j i, j ≤ 15 ∧ i < 2 ^ 31 ∧ x = nI j ∧ z = nI i ∧ r = some (.int (plI (fS s) j i)) ∧ ∃ (zz9 rc9 : Int32) (en9 : Nat → Int32) (sn9 : Nat → Int64) (nd9 ln9 : Nat → Int32), w1 = [(K, ob 4 (kF p o v t y)), (p, ob 0 (cR q1 q2 ns)), (q1, aI G 15 lk), (q2, aI G 16 ld), (t, ob 2 (sF t1 t2 t3 t4 zz9 rc9)), (t1, aI G 4624 en9), (t2, aJ G 256 sn9), (t3, aI G 16 nd9), (t4, aI G 16 ln9)])) (fun E w1 => (E = xIO ∧ ¬ isN x 15 ∧ w1 = [(K, ob 4 (kF p o v t y)), (p, ob 0 (cR q1 q2 ns)), (q1, aI G 15 lk), (q2, aI G 16 ld), (t, ob 2 (sF t1 t2 t3 t4 zz rc)), (t1, aI G 4624 en), (t2, aJ G 256 sn), (t3, aI G 16 nd), (t4, aI G 16 ln)]) ∨ (E = xIA ∧ isN x 15 ∧ z < 0 ∧ w1 = [(K, ob 4 (kF p o v t y)), (p, ob 0 (cR q1 q2 ns)), (q1, aI G 15 lk), (q2, aI G 16 ld), (t, ob 2 (sF t1 t2 t3 t4 zz rc)), (t1, aI G 4624 en), (t2, aJ G 256 sn), (t3, aI G 16 nd), (t4, aI G 16 ln)])) := by
  refine ConX.mk hlt (Nat.le_of_ble_eq_true rfl) (by decide +kernel) (Nat.le_of_ble_eq_true rfl) (fun P C Rr Tr => ?_)
  refine st_iload_n C (dk DX5_plan_0 0 rfl) rfl ?_
  refine st_cS C (k_X5_isCell l G) mf_X5_isCell ms_X5_isCell ml_RX5_71 (dk DX5_plan_0 1 rfl) [] rfl rfl rfl rfl (Nat.le_of_ble_eq_true rfl) ⟨Nat.le_of_ble_eq_true rfl, Nat.le_of_ble_eq_true rfl⟩ ⟨Nat.zero_le _, Nat.zero_le _⟩ (fun r9 w9 hq9 => ?_)
  obtain ⟨rfl, rfl⟩ := hq9
  show P _ _ _ _ _ [_, _, _, _, _, _, _, _, _]
  refine st_if_ne C (tgt := 17) (dk DX5_plan_0 2 rfl) (by decide) (fun c_4 => ?_) (fun c_4 => ?_)
  · refine st_iload_n C (dk DX5_plan_0 8 rfl) rfl ?_
    refine st_if_ge C (tgt := 31) (dk DX5_plan_0 9 rfl) (by decide) (fun c_18 => ?_) (fun c_18 => ?_)
    · obtain ⟨j, hj, rfl⟩ := rIn_f (n := 15) (by decide) rfl c_4
      obtain ⟨i, hi, rfl⟩ := nI_of (Int32.not_lt.mpr c_18)
      obtain ⟨ec, e1, e2, e3⟩ := hC.srch
      refine st_aload_n C (dk DX5_plan_0 15 rfl) rfl ?_
      refine st_get C fl_RX5_29 (dk DX5_plan_0 16 rfl) 0 rfl rfl ?_
      refine st_aload_n C (dk DX5_plan_0 17 rfl) rfl ?_
      refine st_get C fl_RX5_10 (dk DX5_plan_0 18 rfl) 0 rfl rfl ?_
      refine st_cV C (k_X3_run l G e1 e2 e3) mf_X3_run mi_X3_run ml_RX5_131 (dk DX5_plan_0 19 rfl) [4, 5, 6, 7, 8, 1, 2, 3] rfl rfl rfl rfl (Nat.le_of_ble_eq_true rfl) rfl rfl ⟨Nat.le_of_ble_eq_true rfl, Nat.le_of_ble_eq_true rfl⟩ ⟨Nat.zero_le _, Nat.zero_le _⟩ (fun r9 w9 hq9 => ?_)
      obtain ⟨rfl, sz39, rc39, en39, sn39, nd39, ln39, hres39, rfl⟩ := hq9
      simp only [put_cons, put_nil, List.set_cons_zero, List.set_cons_succ]
      have hSx : SRx s rc39 en39 nd39 ln39 := SRes.plan hC.1 (fun t ht => (e1.1 t ht).2.1) hres39
      refine st_aload_n C (dk DX5_plan_0 20 rfl) rfl ?_
      refine st_get C fl_RX5_29 (dk DX5_plan_0 21 rfl) 0 rfl rfl ?_
      refine st_iload_n C (dk DX5_plan_0 22 rfl) rfl ?_
      refine st_iload_n C (dk DX5_plan_0 23 rfl) rfl ?_
      refine st_cV C (k_X3_stepTo l G) mf_X3_stepTo mi_X3_stepTo ml_RX5_139 (dk DX5_plan_0 24 rfl) [4, 5, 7, 8] rfl rfl rfl rfl (Nat.le_of_ble_eq_true rfl) rfl rfl ⟨Nat.le_of_ble_eq_true rfl, Nat.le_of_ble_eq_true rfl⟩ ⟨Nat.zero_le _, Nat.zero_le _⟩ (fun r9 w9 hq9 => ?_)
      obtain ⟨rfl, rfl⟩ := hq9
      show P _ _ _ _ _ [_, _, _, _, _, _, _, _, _]
      exact Rr 0 0 _ _ _ _ _ _ (Nat.zero_le _) (Nat.zero_le _) (dk DX5_plan_0 25 rfl) (.inr (.inl ⟨_, rfl, rfl, rfl, rfl⟩)) rfl ⟨rfl, ⟨j, i, hj, hi, rfl, rfl, by rw [hSx.2.2 j i (by omega) hi], _, _, _, _, _, _, rfl⟩⟩
    · exact Tr _ _ _ _ _ _ _ _ _ _ _ tf_54 sr_179 (Nat.le_of_ble_eq_true rfl) (Nat.le_of_ble_eq_true rfl) (dk DX5_plan_0 10 rfl) (dk DX5_plan_0 11 rfl) (dk DX5_plan_0 12 rfl) (dk DX5_plan_0 13 rfl) (dk DX5_plan_0 14 rfl) (Nat.le_of_ble_eq_true rfl) rfl (Or.inr ⟨rfl, rIn_f (n := 15) (by decide) rfl c_4, Int32.not_le.mp c_18, rfl⟩)
  · exact Tr _ _ _ _ _ _ _ _ _ _ _ tf_44 sr_74 (Nat.le_of_ble_eq_true rfl) (Nat.le_of_ble_eq_true rfl) (dk DX5_plan_0 3 rfl) (dk DX5_plan_0 4 rfl) (dk DX5_plan_0 5 rfl) (dk DX5_plan_0 6 rfl) (dk DX5_plan_0 7 rfl) (Nat.le_of_ble_eq_true rfl) rfl (Or.inl ⟨rfl, rIn_t (n := 15) (by decide) rfl c_4, rfl⟩)
set_option maxHeartbeats 4000000 in
set_option maxRecDepth 100000 in
theorem k_X5_count (l : Launch) (G : wG) (hlt : l.stackTraces = false) {K p q1 q2 o v v1 t t1 t2 t3 t4 y : Nat} {s : mS} {ns lk ld : Nat → Int32} {zz rc : Int32} {en : Nat → Int32} {sn : Nat → Int64} {nd ln : Nat → Int32} {nx sz : Int32} {k : Nat} {x : Int32} (hC : CRep s ns lk ld) (hsz : sz = nI k) : ConX l G yX5_count cX5_count 2 (some .int) 6 1 6 [.ref K, .int x] [(K, ob 4 (kF p o v t y)), (p, ob 0 (cR q1 q2 ns)), (q1, aI G 15 lk), (q2, aI G 16 ld), (v, ob 1 (vF v1 nx sz)), (t, ob 2 (sF t1 t2 t3 t4 zz rc)), (t1, aI G 4624 en), (t2, aJ G 256 sn), (t3, aI G 16 nd), (t4, aI G 16 ln)] (fun r w1 w2 => w2 = [] ∧ (∃ i, i ≤ 6 ∧ x = nI i ∧ r = some (.int (coI s k i)) ∧ ∃ (zz9 rc9 : Int32) (en9 : Nat → Int32) (sn9 : Nat → Int64) (nd9 ln9 : Nat → Int32), w1 = [(K, ob 4 (kF p o v t y)), (p, ob 0 (cR q1 q2 ns)), (q1, aI G 15 lk), (q2, aI G 16 ld), (v, ob 1 (vF v1 nx sz)), (t, ob 2 (sF t1 t2 t3 t4 zz9 rc9)), (t1, aI G 4624 en9), (t2, aJ G 256 sn9), (t3, aI G 16 nd9), (t4, aI G 16 ln9)])) (fun E w1 => E = xIA ∧ ¬ isN x 6 ∧ w1 = [(K, ob 4 (kF p o v t y)), (p, ob 0 (cR q1 q2 ns)), (q1, aI G 15 lk), (q2, aI G 16 ld), (v, ob 1 (vF v1 nx sz)), (t, ob 2 (sF t1 t2 t3 t4 zz rc)), (t1, aI G 4624 en), (t2, aJ G 256 sn), (t3, aI G 16 nd), (t4, aI G 16 ln)]) := by
  refine ConX.mk hlt (Nat.le_of_ble_eq_true rfl) (by decide +kernel) (Nat.le_of_ble_eq_true rfl) (fun P C Rr Tr => ?_)
  refine st_iload_n C (dk DX5_count_0 0 rfl) rfl ?_
  refine st_if_lt C (tgt := 10) (dk DX5_count_0 1 rfl) (by decide) (fun c_1 => ?_) (fun c_1 => ?_)
  · exact Tr _ _ _ _ _ _ _ _ _ _ _ tf_54 sr_169 (Nat.le_of_ble_eq_true rfl) (Nat.le_of_ble_eq_true rfl) (dk DX5_count_0 5 rfl) (dk DX5_count_0 6 rfl) (dk DX5_count_0 7 rfl) (dk DX5_count_0 8 rfl) (dk DX5_count_0 9 rfl) (Nat.le_of_ble_eq_true rfl) rfl (⟨rfl, isN_neg (by decide) c_1, rfl⟩)
  · refine st_iload_n C (dk DX5_count_0 2 rfl) rfl ?_
    refine st_bipush C (v := 6) (dk DX5_count_0 3 rfl) (by decide) ?_
    refine st_icmp_le C (tgt := 20) (dk DX5_count_0 4 rfl) (by decide) (fun c_7 => ?_) (fun c_7 => ?_)
    · obtain ⟨i, hi, rfl⟩ := isN_le (n := 6) (by decide) rfl c_1 c_7
      obtain ⟨ec, e1, e2, e3⟩ := hC.srch
      refine st_iload_n C (dk DX5_count_0 10 rfl) rfl ?_
      refine st_iconst C (v := 3) (dk DX5_count_0 11 rfl) (by decide) ?_
      refine st_icmp_eq C (tgt := 30) (dk DX5_count_0 12 rfl) (by decide) (fun c_22 => ?_) (fun c_22 => ?_)
      · refine st_aload_n C (dk DX5_count_0 16 rfl) rfl ?_
        refine st_get C fl_RX5_29 (dk DX5_count_0 17 rfl) 0 rfl rfl ?_
        refine st_aload_n C (dk DX5_count_0 18 rfl) rfl ?_
        refine st_get C fl_RX5_10 (dk DX5_count_0 19 rfl) 0 rfl rfl ?_
        refine st_cV C (k_X3_run l G e1 e2 e3) mf_X3_run mi_X3_run ml_RX5_131 (dk DX5_count_0 20 rfl) [5, 6, 7, 8, 9, 1, 2, 3] rfl rfl rfl rfl (Nat.le_of_ble_eq_true rfl) rfl rfl ⟨Nat.le_of_ble_eq_true rfl, Nat.le_of_ble_eq_true rfl⟩ ⟨Nat.zero_le _, Nat.zero_le _⟩ (fun r9 w9 hq9 => ?_)
        obtain ⟨rfl, sz38, rc38, en38, sn38, nd38, ln38, hres38, rfl⟩ := hq9
        simp only [put_cons, put_nil, List.set_cons_zero, List.set_cons_succ]
        have hSx : SRx s rc38 en38 nd38 ln38 := SRes.plan hC.1 (fun t ht => (e1.1 t ht).2.1) hres38
        refine st_aload_n C (dk DX5_count_0 21 rfl) rfl ?_
        refine st_iload_n C (dk DX5_count_0 22 rfl) rfl ?_
        refine st_cV C (k_X5_numberInAll l G hC hsz rfl hi (fun _ => hSx)) mf_X5_numberInAll mi_X5_numberInAll ml_RX5_181 (dk DX5_count_0 23 rfl) [0, 1, 2, 3, 4, 5, 6, 7, 8, 9] rfl rfl rfl rfl (Nat.le_of_ble_eq_true rfl) rfl rfl ⟨Nat.le_of_ble_eq_true rfl, Nat.le_of_ble_eq_true rfl⟩ ⟨Nat.zero_le _, Nat.zero_le _⟩ (fun r9 w9 hq9 => ?_)
        obtain ⟨rfl, rfl⟩ := hq9
        simp only [put_cons, put_nil, List.set_cons_zero, List.set_cons_succ]
        exact Rr 0 0 _ _ _ _ _ _ (Nat.zero_le _) (Nat.zero_le _) (dk DX5_count_0 24 rfl) (.inr (.inl ⟨_, rfl, rfl, rfl, rfl⟩)) rfl ⟨rfl, ⟨i, hi, rfl, rfl, _, _, _, _, _, _, rfl⟩⟩
      · refine st_iload_n C (dk DX5_count_0 13 rfl) rfl ?_
        refine st_iconst C (v := 4) (dk DX5_count_0 14 rfl) (by decide) ?_
        refine st_icmp_ne C (tgt := 41) (dk DX5_count_0 15 rfl) (by decide) (fun c_27 => ?_) (fun c_27 => ?_)
        · refine st_aload_n C (dk DX5_count_0 21 rfl) rfl ?_
          refine st_iload_n C (dk DX5_count_0 22 rfl) rfl ?_
          refine st_cV C (k_X5_numberInAll l G hC hsz rfl hi (fun h => h.elim (fun e => absurd (by rw [e]; rfl) c_22) (fun e => absurd (by rw [e]; rfl) c_27))) mf_X5_numberInAll mi_X5_numberInAll ml_RX5_181 (dk DX5_count_0 23 rfl) [0, 1, 2, 3, 4, 5, 6, 7, 8, 9] rfl rfl rfl rfl (Nat.le_of_ble_eq_true rfl) rfl rfl ⟨Nat.le_of_ble_eq_true rfl, Nat.le_of_ble_eq_true rfl⟩ ⟨Nat.zero_le _, Nat.zero_le _⟩ (fun r9 w9 hq9 => ?_)
          obtain ⟨rfl, rfl⟩ := hq9
          simp only [put_cons, put_nil, List.set_cons_zero, List.set_cons_succ]
          exact Rr 0 0 _ _ _ _ _ _ (Nat.zero_le _) (Nat.zero_le _) (dk DX5_count_0 24 rfl) (.inr (.inl ⟨_, rfl, rfl, rfl, rfl⟩)) rfl ⟨rfl, ⟨i, hi, rfl, rfl, _, _, _, _, _, _, rfl⟩⟩
        · refine st_aload_n C (dk DX5_count_0 16 rfl) rfl ?_
          refine st_get C fl_RX5_29 (dk DX5_count_0 17 rfl) 0 rfl rfl ?_
          refine st_aload_n C (dk DX5_count_0 18 rfl) rfl ?_
          refine st_get C fl_RX5_10 (dk DX5_count_0 19 rfl) 0 rfl rfl ?_
          refine st_cV C (k_X3_run l G e1 e2 e3) mf_X3_run mi_X3_run ml_RX5_131 (dk DX5_count_0 20 rfl) [5, 6, 7, 8, 9, 1, 2, 3] rfl rfl rfl rfl (Nat.le_of_ble_eq_true rfl) rfl rfl ⟨Nat.le_of_ble_eq_true rfl, Nat.le_of_ble_eq_true rfl⟩ ⟨Nat.zero_le _, Nat.zero_le _⟩ (fun r9 w9 hq9 => ?_)
          obtain ⟨rfl, sz38, rc38, en38, sn38, nd38, ln38, hres38, rfl⟩ := hq9
          simp only [put_cons, put_nil, List.set_cons_zero, List.set_cons_succ]
          have hSx : SRx s rc38 en38 nd38 ln38 := SRes.plan hC.1 (fun t ht => (e1.1 t ht).2.1) hres38
          refine st_aload_n C (dk DX5_count_0 21 rfl) rfl ?_
          refine st_iload_n C (dk DX5_count_0 22 rfl) rfl ?_
          refine st_cV C (k_X5_numberInAll l G hC hsz rfl hi (fun _ => hSx)) mf_X5_numberInAll mi_X5_numberInAll ml_RX5_181 (dk DX5_count_0 23 rfl) [0, 1, 2, 3, 4, 5, 6, 7, 8, 9] rfl rfl rfl rfl (Nat.le_of_ble_eq_true rfl) rfl rfl ⟨Nat.le_of_ble_eq_true rfl, Nat.le_of_ble_eq_true rfl⟩ ⟨Nat.zero_le _, Nat.zero_le _⟩ (fun r9 w9 hq9 => ?_)
          obtain ⟨rfl, rfl⟩ := hq9
          simp only [put_cons, put_nil, List.set_cons_zero, List.set_cons_succ]
          exact Rr 0 0 _ _ _ _ _ _ (Nat.zero_le _) (Nat.zero_le _) (dk DX5_count_0 24 rfl) (.inr (.inl ⟨_, rfl, rfl, rfl, rfl⟩)) rfl ⟨rfl, ⟨i, hi, rfl, rfl, _, _, _, _, _, _, rfl⟩⟩
    · exact Tr _ _ _ _ _ _ _ _ _ _ _ tf_54 sr_169 (Nat.le_of_ble_eq_true rfl) (Nat.le_of_ble_eq_true rfl) (dk DX5_count_0 5 rfl) (dk DX5_count_0 6 rfl) (dk DX5_count_0 7 rfl) (dk DX5_count_0 8 rfl) (dk DX5_count_0 9 rfl) (Nat.le_of_ble_eq_true rfl) rfl (⟨rfl, isN_nle (by decide) rfl c_7, rfl⟩)
set_option maxHeartbeats 4000000 in
set_option maxRecDepth 100000 in
theorem k_X5_refusal (l : Launch) (G : wG) (hlt : l.stackTraces = false) {K p q1 q2 o v t y : Nat} {s : mS} {ns lk ld : Nat → Int32} {x : Int32} (hC : CRep s ns lk ld) : ConX l G yX5_refusal cX5_refusal 2 (some .int) 6 1 6 [.ref K, .int x] [(K, ob 4 (kF p o v t y)), (p, ob 0 (cR q1 q2 ns)), (q1, aI G 15 lk), (q2, aI G 16 ld)] (fun r w1 w2 => w2 = [] ∧ (∃ st, st ≤ 4 ∧ x = nI st ∧ r = some (.int (nI (refN s st))) ∧ w1 = [(K, ob 4 (kF p o v t y)), (p, ob 0 (cR q1 q2 ns)), (q1, aI G 15 lk), (q2, aI G 16 ld)])) (fun E w1 => E = xIA ∧ ¬ isN x 4 ∧ w1 = [(K, ob 4 (kF p o v t y)), (p, ob 0 (cR q1 q2 ns)), (q1, aI G 15 lk), (q2, aI G 16 ld)]) := by
  refine ConX.mk hlt (Nat.le_of_ble_eq_true rfl) (by decide +kernel) (Nat.le_of_ble_eq_true rfl) (fun P C Rr Tr => ?_)
  refine st_iload_n C (dk DX5_refusal_0 0 rfl) rfl ?_
  refine st_cS C (k_X5_isStep l G) mf_X5_isStep ms_X5_isStep ml_RX5_117 (dk DX5_refusal_0 1 rfl) [] rfl rfl rfl rfl (Nat.le_of_ble_eq_true rfl) ⟨Nat.le_of_ble_eq_true rfl, Nat.le_of_ble_eq_true rfl⟩ ⟨Nat.zero_le _, Nat.zero_le _⟩ (fun r9 w9 hq9 => ?_)
  obtain ⟨rfl, rfl⟩ := hq9
  show P _ _ _ _ _ [_, _, _, _]
  refine st_if_ne C (tgt := 17) (dk DX5_refusal_0 2 rfl) (by decide) (fun c_4 => ?_) (fun c_4 => ?_)
  · obtain ⟨st, hst, rfl⟩ := rIn_f (n := 4) (by decide) rfl c_4
    refine st_aload_n C (dk DX5_refusal_0 8 rfl) rfl ?_
    refine st_get C fl_RX5_10 (dk DX5_refusal_0 9 rfl) 0 rfl rfl ?_
    refine st_iload_n C (dk DX5_refusal_0 10 rfl) rfl ?_
    refine st_cV C (k_X1_reasonAgainst l G) mf_X1_reasonAgainst mi_X1_reasonAgainst ml_RX5_122 (dk DX5_refusal_0 11 rfl) [1, 2, 3] rfl rfl rfl rfl (Nat.le_of_ble_eq_true rfl) rfl rfl ⟨Nat.le_of_ble_eq_true rfl, Nat.le_of_ble_eq_true rfl⟩ ⟨Nat.zero_le _, Nat.zero_le _⟩ (fun r9 w9 hq9 => ?_)
    obtain ⟨rfl, rfl⟩ := hq9
    show P _ _ _ _ _ [_, _, _, _]
    exact Rr 0 0 _ _ _ _ _ _ (Nat.zero_le _) (Nat.zero_le _) (dk DX5_refusal_0 12 rfl) (.inr (.inl ⟨_, rfl, rfl, rfl, rfl⟩)) rfl ⟨rfl, ⟨st, hst, rfl, by rw [hC.reas (by omega)], rfl⟩⟩
  · exact Tr _ _ _ _ _ _ _ _ _ _ _ tf_54 sr_120 (Nat.le_of_ble_eq_true rfl) (Nat.le_of_ble_eq_true rfl) (dk DX5_refusal_0 3 rfl) (dk DX5_refusal_0 4 rfl) (dk DX5_refusal_0 5 rfl) (dk DX5_refusal_0 6 rfl) (dk DX5_refusal_0 7 rfl) (Nat.le_of_ble_eq_true rfl) rfl (⟨rfl, rIn_t (n := 4) (by decide) rfl c_4, rfl⟩)
set_option maxHeartbeats 4000000 in
set_option maxRecDepth 100000 in
theorem k_X5_ifDoor (l : Launch) (G : wG) (hlt : l.stackTraces = false) {K p q1 q2 o o1 o2 v t t1 t2 t3 t4 y : Nat} {s : mS} {ns lk ld : Nat → Int32} {os olk old : Nat → Int32} {zz rc : Int32} {en : Nat → Int32} {sn : Nat → Int64} {nd ln : Nat → Int32} {x z : Int32} (hC : CRep s ns lk ld) : ConX l G yX5_ifDoor cX5_ifDoor 3 (some .int) 6 1 6 [.ref K, .int x, .int z] [(K, ob 4 (kF p o v t y)), (p, ob 0 (cR q1 q2 ns)), (q1, aI G 15 lk), (q2, aI G 16 ld), (o, ob 0 (cR o1 o2 os)), (o1, aI G 15 olk), (o2, aI G 16 old), (t, ob 2 (sF t1 t2 t3 t4 zz rc)), (t1, aI G 4624 en), (t2, aJ G 256 sn), (t3, aI G 16 nd), (t4, aI G 16 ln)] (fun r w1 w2 => w2 = [] ∧ (∃ j i, j ≤ 14 ∧ i ≤ 5 ∧ x = nI j ∧ z = nI i ∧ r = some (.int (nI (cnt (fS (updS s (22 + j) i)) 16))) ∧ ∃ (os9 olk9 old9 : Nat → Int32) (zz9 rc9 : Int32) (en9 : Nat → Int32) (sn9 : Nat → Int64) (nd9 ln9 : Nat → Int32), w1 = [(K, ob 4 (kF p o v t y)), (p, ob 0 (cR q1 q2 ns)), (q1, aI G 15 lk), (q2, aI G 16 ld), (o, ob 0 (cR o1 o2 os9)), (o1, aI G 15 olk9), (o2, aI G 16 old9), (t, ob 2 (sF t1 t2 t3 t4 zz9 rc9)), (t1, aI G 4624 en9), (t2, aJ G 256 sn9), (t3, aI G 16 nd9), (t4, aI G 16 ln9)])) (fun E w1 => (E = xIO ∧ ¬ isN x 14 ∧ w1 = [(K, ob 4 (kF p o v t y)), (p, ob 0 (cR q1 q2 ns)), (q1, aI G 15 lk), (q2, aI G 16 ld), (o, ob 0 (cR o1 o2 os)), (o1, aI G 15 olk), (o2, aI G 16 old), (t, ob 2 (sF t1 t2 t3 t4 zz rc)), (t1, aI G 4624 en), (t2, aJ G 256 sn), (t3, aI G 16 nd), (t4, aI G 16 ln)]) ∨ (E = xIA ∧ isN x 14 ∧ ¬ isN z 5 ∧ w1 = [(K, ob 4 (kF p o v t y)), (p, ob 0 (cR q1 q2 ns)), (q1, aI G 15 lk), (q2, aI G 16 ld), (o, ob 0 (cR o1 o2 os)), (o1, aI G 15 olk), (o2, aI G 16 old), (t, ob 2 (sF t1 t2 t3 t4 zz rc)), (t1, aI G 4624 en), (t2, aJ G 256 sn), (t3, aI G 16 nd), (t4, aI G 16 ln)])) := by
  refine ConX.mk hlt (Nat.le_of_ble_eq_true rfl) (by decide +kernel) (Nat.le_of_ble_eq_true rfl) (fun P C Rr Tr => ?_)
  refine st_iload_n C (dk DX5_ifDoor_0 0 rfl) rfl ?_
  refine st_cS C (k_X5_isDoor l G) mf_X5_isDoor ms_X5_isDoor ml_RX5_40 (dk DX5_ifDoor_0 1 rfl) [] rfl rfl rfl rfl (Nat.le_of_ble_eq_true rfl) ⟨Nat.le_of_ble_eq_true rfl, Nat.le_of_ble_eq_true rfl⟩ ⟨Nat.zero_le _, Nat.zero_le _⟩ (fun r9 w9 hq9 => ?_)
  obtain ⟨rfl, rfl⟩ := hq9
  show P _ _ _ _ _ [_, _, _, _, _, _, _, _, _, _, _, _]
  refine st_if_ne C (tgt := 17) (dk DX5_ifDoor_0 2 rfl) (by decide) (fun c_4 => ?_) (fun c_4 => ?_)
  · refine st_iload_n C (dk DX5_ifDoor_0 8 rfl) rfl ?_
    refine st_cS C (k_X5_isBow l G) mf_X5_isBow ms_X5_isBow ml_RX5_51 (dk DX5_ifDoor_0 9 rfl) [] rfl rfl rfl rfl (Nat.le_of_ble_eq_true rfl) ⟨Nat.le_of_ble_eq_true rfl, Nat.le_of_ble_eq_true rfl⟩ ⟨Nat.zero_le _, Nat.zero_le _⟩ (fun r9 w9 hq9 => ?_)
    obtain ⟨rfl, rfl⟩ := hq9
    show P _ _ _ _ _ [_, _, _, _, _, _, _, _, _, _, _, _]
    refine st_if_ne C (tgt := 34) (dk DX5_ifDoor_0 10 rfl) (by decide) (fun c_21 => ?_) (fun c_21 => ?_)
    · obtain ⟨j, hj, rfl⟩ := rIn_f (n := 14) (by decide) rfl c_4
      obtain ⟨i, hi, rfl⟩ := rBowOk_f c_21
      refine st_aload_n C (dk DX5_ifDoor_0 16 rfl) rfl ?_
      refine st_iload_n C (dk DX5_ifDoor_0 17 rfl) rfl ?_
      refine st_iload_n C (dk DX5_ifDoor_0 18 rfl) rfl ?_
      refine st_cV C (k_X5_reachedWithDoor l G hC rfl hj rfl hi) mf_X5_reachedWithDoor mi_X5_reachedWithDoor ml_RX5_184 (dk DX5_ifDoor_0 19 rfl) [0, 1, 2, 3, 4, 5, 6, 7, 8, 9, 10, 11] rfl rfl rfl rfl (Nat.le_of_ble_eq_true rfl) rfl rfl ⟨Nat.le_of_ble_eq_true rfl, Nat.le_of_ble_eq_true rfl⟩ ⟨Nat.zero_le _, Nat.zero_le _⟩ (fun r9 w9 hq9 => ?_)
      obtain ⟨rfl, os37, olk37, old37, zz37, rc37, en37, sn37, nd37, ln37, rfl⟩ := hq9
      simp only [put_cons, put_nil, List.set_cons_zero, List.set_cons_succ]
      exact Rr 0 0 _ _ _ _ _ _ (Nat.zero_le _) (Nat.zero_le _) (dk DX5_ifDoor_0 20 rfl) (.inr (.inl ⟨_, rfl, rfl, rfl, rfl⟩)) rfl ⟨rfl, ⟨j, i, hj, hi, rfl, rfl, rfl, os37, olk37, old37, zz37, rc37, en37, sn37, nd37, ln37, rfl⟩⟩
    · exact Tr _ _ _ _ _ _ _ _ _ _ _ tf_54 sr_56 (Nat.le_of_ble_eq_true rfl) (Nat.le_of_ble_eq_true rfl) (dk DX5_ifDoor_0 11 rfl) (dk DX5_ifDoor_0 12 rfl) (dk DX5_ifDoor_0 13 rfl) (dk DX5_ifDoor_0 14 rfl) (dk DX5_ifDoor_0 15 rfl) (Nat.le_of_ble_eq_true rfl) rfl (Or.inr ⟨rfl, rIn_f (n := 14) (by decide) rfl c_4, rBowOk_t c_21, rfl⟩)
  · exact Tr _ _ _ _ _ _ _ _ _ _ _ tf_44 sr_46 (Nat.le_of_ble_eq_true rfl) (Nat.le_of_ble_eq_true rfl) (dk DX5_ifDoor_0 3 rfl) (dk DX5_ifDoor_0 4 rfl) (dk DX5_ifDoor_0 5 rfl) (dk DX5_ifDoor_0 6 rfl) (dk DX5_ifDoor_0 7 rfl) (Nat.le_of_ble_eq_true rfl) rfl (Or.inl ⟨rfl, rIn_t (n := 14) (by decide) rfl c_4, rfl⟩)
set_option maxHeartbeats 4000000 in
set_option maxRecDepth 100000 in
theorem k_X5_without (l : Launch) (G : wG) (hlt : l.stackTraces = false) {K p q1 q2 o o1 o2 v t t1 t2 t3 t4 y : Nat} {s : mS} {ns lk ld : Nat → Int32} {os olk old : Nat → Int32} {zz rc : Int32} {en : Nat → Int32} {sn : Nat → Int64} {nd ln : Nat → Int32} {x : Int32} (hC : CRep s ns lk ld) : ConX l G yX5_without cX5_without 2 (some .int) 6 1 6 [.ref K, .int x] [(K, ob 4 (kF p o v t y)), (p, ob 0 (cR q1 q2 ns)), (q1, aI G 15 lk), (q2, aI G 16 ld), (o, ob 0 (cR o1 o2 os)), (o1, aI G 15 olk), (o2, aI G 16 old), (t, ob 2 (sF t1 t2 t3 t4 zz rc)), (t1, aI G 4624 en), (t2, aJ G 256 sn), (t3, aI G 16 nd), (t4, aI G 16 ln)] (fun r w1 w2 => w2 = [] ∧ (∃ j, j ≤ 15 ∧ x = nI j ∧ r = some (.int (nI (cnt (fS (updS s (6 + j) 0)) 16))) ∧ ∃ (os9 olk9 old9 : Nat → Int32) (zz9 rc9 : Int32) (en9 : Nat → Int32) (sn9 : Nat → Int64) (nd9 ln9 : Nat → Int32), w1 = [(K, ob 4 (kF p o v t y)), (p, ob 0 (cR q1 q2 ns)), (q1, aI G 15 lk), (q2, aI G 16 ld), (o, ob 0 (cR o1 o2 os9)), (o1, aI G 15 olk9), (o2, aI G 16 old9), (t, ob 2 (sF t1 t2 t3 t4 zz9 rc9)), (t1, aI G 4624 en9), (t2, aJ G 256 sn9), (t3, aI G 16 nd9), (t4, aI G 16 ln9)])) (fun E w1 => E = xIO ∧ ¬ isN x 15 ∧ w1 = [(K, ob 4 (kF p o v t y)), (p, ob 0 (cR q1 q2 ns)), (q1, aI G 15 lk), (q2, aI G 16 ld), (o, ob 0 (cR o1 o2 os)), (o1, aI G 15 olk), (o2, aI G 16 old), (t, ob 2 (sF t1 t2 t3 t4 zz rc)), (t1, aI G 4624 en), (t2, aJ G 256 sn), (t3, aI G 16 nd), (t4, aI G 16 ln)]) := by
  refine ConX.mk hlt (Nat.le_of_ble_eq_true rfl) (by decide +kernel) (Nat.le_of_ble_eq_true rfl) (fun P C Rr Tr => ?_)
  refine st_iload_n C (dk DX5_without_0 0 rfl) rfl ?_
  refine st_cS C (k_X5_isCell l G) mf_X5_isCell ms_X5_isCell ml_RX5_71 (dk DX5_without_0 1 rfl) [] rfl rfl rfl rfl (Nat.le_of_ble_eq_true rfl) ⟨Nat.le_of_ble_eq_true rfl, Nat.le_of_ble_eq_true rfl⟩ ⟨Nat.zero_le _, Nat.zero_le _⟩ (fun r9 w9 hq9 => ?_)
  obtain ⟨rfl, rfl⟩ := hq9
  show P _ _ _ _ _ [_, _, _, _, _, _, _, _, _, _, _, _]
  refine st_if_ne C (tgt := 17) (dk DX5_without_0 2 rfl) (by decide) (fun c_4 => ?_) (fun c_4 => ?_)
  · obtain ⟨j, hj, rfl⟩ := rIn_f (n := 15) (by decide) rfl c_4
    refine st_aload_n C (dk DX5_without_0 8 rfl) rfl ?_
    refine st_iload_n C (dk DX5_without_0 9 rfl) rfl ?_
    refine st_cV C (k_X5_reachedWithoutKey l G hC rfl hj) mf_X5_reachedWithoutKey mi_X5_reachedWithoutKey ml_RX5_187 (dk DX5_without_0 10 rfl) [0, 1, 2, 3, 4, 5, 6, 7, 8, 9, 10, 11] rfl rfl rfl rfl (Nat.le_of_ble_eq_true rfl) rfl rfl ⟨Nat.le_of_ble_eq_true rfl, Nat.le_of_ble_eq_true rfl⟩ ⟨Nat.zero_le _, Nat.zero_le _⟩ (fun r9 w9 hq9 => ?_)
    obtain ⟨rfl, os19, olk19, old19, zz19, rc19, en19, sn19, nd19, ln19, rfl⟩ := hq9
    simp only [put_cons, put_nil, List.set_cons_zero, List.set_cons_succ]
    exact Rr 0 0 _ _ _ _ _ _ (Nat.zero_le _) (Nat.zero_le _) (dk DX5_without_0 11 rfl) (.inr (.inl ⟨_, rfl, rfl, rfl, rfl⟩)) rfl ⟨rfl, ⟨j, hj, rfl, rfl, os19, olk19, old19, zz19, rc19, en19, sn19, nd19, ln19, rfl⟩⟩
  · exact Tr _ _ _ _ _ _ _ _ _ _ _ tf_44 sr_74 (Nat.le_of_ble_eq_true rfl) (Nat.le_of_ble_eq_true rfl) (dk DX5_without_0 3 rfl) (dk DX5_without_0 4 rfl) (dk DX5_without_0 5 rfl) (dk DX5_without_0 6 rfl) (dk DX5_without_0 7 rfl) (Nat.le_of_ble_eq_true rfl) rfl (⟨rfl, rIn_t (n := 15) (by decide) rfl c_4, rfl⟩)
set_option maxHeartbeats 4000000 in
set_option maxRecDepth 100000 in
theorem k_X5_reached (l : Launch) (G : wG) {K p q1 q2 o v t t1 t2 t3 t4 y : Nat} {s : mS} {ns lk ld : Nat → Int32} {zz rc : Int32} {en : Nat → Int32} {sn : Nat → Int64} {nd ln : Nat → Int32} (hC : CRep s ns lk ld) : Con0 l G yX5_reached cX5_reached 1 (some .double) 5 [.ref K] [(K, ob 4 (kF p o v t y)), (p, ob 0 (cR q1 q2 ns)), (q1, aI G 15 lk), (q2, aI G 16 ld), (t, ob 2 (sF t1 t2 t3 t4 zz rc)), (t1, aI G 4624 en), (t2, aJ G 256 sn), (t3, aI G 16 nd), (t4, aI G 16 ln)] (fun r w => r = some (.double (shD (cnt (fS s) 16))) ∧ ∃ (zz9 rc9 : Int32) (en9 : Nat → Int32) (sn9 : Nat → Int64) (nd9 ln9 : Nat → Int32), w = [(K, ob 4 (kF p o v t y)), (p, ob 0 (cR q1 q2 ns)), (q1, aI G 15 lk), (q2, aI G 16 ld), (t, ob 2 (sF t1 t2 t3 t4 zz9 rc9)), (t1, aI G 4624 en9), (t2, aJ G 256 sn9), (t3, aI G 16 nd9), (t4, aI G 16 ln9)]) := by
  refine Con.mk (by decide +kernel) (Nat.le_of_ble_eq_true rfl) (fun P C Rr => ?_)
  obtain ⟨ec, e1, e2, e3⟩ := hC.srch
  refine st_aload_n C (dk DX5_reached_0 0 rfl) rfl ?_
  refine st_get C fl_RX5_29 (dk DX5_reached_0 1 rfl) 0 rfl rfl ?_
  refine st_aload_n C (dk DX5_reached_0 2 rfl) rfl ?_
  refine st_get C fl_RX5_10 (dk DX5_reached_0 3 rfl) 0 rfl rfl ?_
  refine st_cV C (k_X3_run l G e1 e2 e3) mf_X3_run mi_X3_run ml_RX5_131 (dk DX5_reached_0 4 rfl) [4, 5, 6, 7, 8, 1, 2, 3] rfl rfl rfl rfl (Nat.le_of_ble_eq_true rfl) rfl rfl ⟨Nat.le_of_ble_eq_true rfl, Nat.le_of_ble_eq_true rfl⟩ ⟨Nat.zero_le _, Nat.zero_le _⟩ (fun r9 w9 hq9 => ?_)
  obtain ⟨rfl, sz8, rc8, en8, sn8, nd8, ln8, hres8, rfl⟩ := hq9
  simp only [put_cons, put_nil, List.set_cons_zero, List.set_cons_succ]
  refine st_aload_n C (dk DX5_reached_0 5 rfl) rfl ?_
  refine st_get C fl_RX5_29 (dk DX5_reached_0 6 rfl) 0 rfl rfl ?_
  refine st_get C fl_RX5_193 (dk DX5_reached_0 7 rfl) 4 rfl rfl ?_
  rw [show rc8 = nI (cnt (fS s) 16) from hres8.1]
  refine st_i2d C (dk DX5_reached_0 8 rfl) ?_
  refine st_ldc2d C (dk DX5_reached_0 9 rfl) kc_RX5_196 ?_
  refine st_ddiv C (dk DX5_reached_0 10 rfl) (shD_ok _ (by have := cnt_le (fS s) 16; omega)) ?_
  exact Rr 0 0 _ _ _ _ _ _ (Nat.zero_le _) (Nat.zero_le _) (dk DX5_reached_0 11 rfl) (.inr (.inr (.inr (.inr (.inl ⟨_, rfl, rfl, rfl, rfl⟩))))) rfl ⟨rfl, ⟨rfl, _, _, _, _, _, _, rfl⟩⟩
set_option maxHeartbeats 4000000 in
set_option maxRecDepth 100000 in
theorem k_X5_bestFold (l : Launch) (G : wG) {K p q1 q2 o o1 o2 v t t1 t2 t3 t4 y : Nat} {s : mS} {ns lk ld : Nat → Int32} {os olk old : Nat → Int32} {zz rc : Int32} {en : Nat → Int32} {sn : Nat → Int64} {nd ln : Nat → Int32} (hC : CRep s ns lk ld) : Con0 l G yX5_bestFold cX5_bestFold 6 (some .int) 5 [.ref K] [(K, ob 4 (kF p o v t y)), (p, ob 0 (cR q1 q2 ns)), (q1, aI G 15 lk), (q2, aI G 16 ld), (o, ob 0 (cR o1 o2 os)), (o1, aI G 15 olk), (o2, aI G 16 old), (t, ob 2 (sF t1 t2 t3 t4 zz rc)), (t1, aI G 4624 en), (t2, aJ G 256 sn), (t3, aI G 16 nd), (t4, aI G 16 ln)] (fun r w => r = some (.int (bstI s 7).1) ∧ ∃ (os9 olk9 old9 : Nat → Int32) (zz9 rc9 : Int32) (en9 : Nat → Int32) (sn9 : Nat → Int64) (nd9 ln9 : Nat → Int32), w = [(K, ob 4 (kF p o v t y)), (p, ob 0 (cR q1 q2 ns)), (q1, aI G 15 lk), (q2, aI G 16 ld), (o, ob 0 (cR o1 o2 os9)), (o1, aI G 15 olk9), (o2, aI G 16 old9), (t, ob 2 (sF t1 t2 t3 t4 zz9 rc9)), (t1, aI G 4624 en9), (t2, aJ G 256 sn9), (t3, aI G 16 nd9), (t4, aI G 16 ln9)]) := by
  refine Con.mk (by decide +kernel) (Nat.le_of_ble_eq_true rfl) (fun P C Rr => ?_)
  have h02 := hC.1.1
  have outer : ∀ (m i : Nat) (x : Int32) (a1 a2 a3 le9 : Int32) (zz rc : Int32) (en : Nat → Int32) (sn : Nat → Int64) (nd ln : Nat → Int32) (olk old : Nat → Int32) (n : Nat), i + m = 9 → x = nI i → i = n + 2 → CRep s ns olk old → a2 = (bstI s n).2.1 → a3 = (bstI s n).2.2 → (0 < n → a1 = (bstI s n).1) → P 0 0 20 [(0, .ref K), (1, .int a1), (2, .int a2), (3, .int a3), (4, .int x)] [] [(K, ob 4 (kF p o v t y)), (p, ob 0 (cR q1 q2 ns)), (q1, aI G 15 lk), (q2, aI G 16 ld), (o, ob 0 (cR o1 o2 (mk7 (ns 0) (ns 1) (ns 2) le9 (ns 4) (ns 5) (ns 6)))), (o1, aI G 15 olk), (o2, aI G 16 old), (t, ob 2 (sF t1 t2 t3 t4 zz rc)), (t1, aI G 4624 en), (t2, aJ G 256 sn), (t3, aI G 16 nd), (t4, aI G 16 ln)] := by
    intro m
    induction m with
    | zero =>
      intro i x a1 a2 a3 le9 zz rc en sn nd ln olk old n hi hx hin hO hb2 hb3 hb1
      obtain rfl : i = 9 := by omega
      refine st_iload C (dk DX5_bestFold_0 13 rfl) rfl ?_
      refine st_bipush C (v := 8) (dk DX5_bestFold_0 14 rfl) (by decide) ?_
      refine st_icmp_gt C (tgt := 104) (dk DX5_bestFold_0 15 rfl) (by decide) (fun c_24 => ?_) (fun c_24 => ?_)
      · refine st_iload_n C (dk DX5_bestFold_1 12 rfl) rfl ?_
        refine Rr 0 0 _ _ _ _ _ _ (Nat.zero_le _) (Nat.zero_le _) (dk DX5_bestFold_1 13 rfl) (.inr (.inl ⟨_, rfl, rfl, rfl, rfl⟩)) rfl ?_
        obtain rfl : n = 7 := by omega
        exact ⟨rfl, by rw [hb1 (by omega)], _, olk, old, zz, rc, en, sn, nd, ln, rfl⟩
      · exact absurd ((lt_nI (a := 8) (i := 9) (by decide) (by decide) rfl hx).mpr (by decide)) c_24
    | succ m ih =>
      intro i x a1 a2 a3 le9 zz rc en sn nd ln olk old n hi hx hin hO hb2 hb3 hb1
      have hxn : x = nI (n + 2) := by rw [hx, hin]
      subst hxn
      have h9 := hO.fold (v := n + 2) (by omega) (by omega)
      have hok2 := h9.1
      obtain ⟨ec, e1, e2, e3⟩ := h9.srch
      refine st_iload C (dk DX5_bestFold_0 13 rfl) rfl ?_
      refine st_bipush C (v := 8) (dk DX5_bestFold_0 14 rfl) (by decide) ?_
      refine st_icmp_gt C (tgt := 104) (dk DX5_bestFold_0 15 rfl) (by decide) (fun c_24 => ?_) (fun c_24 => ?_)
      · exact absurd ((lt_nI (a := 8) (i := i) (by decide) (by omega) rfl hx).mp c_24) (by omega)
      · refine st_aload_n C (dk DX5_bestFold_0 16 rfl) rfl ?_
        refine st_get C fl_RX5_16 (dk DX5_bestFold_0 17 rfl) 0 rfl rfl ?_
        refine st_iload C (dk DX5_bestFold_0 18 rfl) rfl ?_
        refine st_put C fl_RX5_106 fc_0 fw_0_5 (dk DX5_bestFold_0 19 rfl) 4 rfl rfl rfl (Nat.le_of_ble_eq_true rfl) ?_
        refine st_aload_n C (dk DX5_bestFold_0 20 rfl) rfl ?_
        refine st_get C fl_RX5_29 (dk DX5_bestFold_0 21 rfl) 0 rfl rfl ?_
        refine st_aload_n C (dk DX5_bestFold_0 22 rfl) rfl ?_
        refine st_get C fl_RX5_16 (dk DX5_bestFold_0 23 rfl) 0 rfl rfl ?_
        refine st_cV C (k_X3_run l G e1 e2 e3) mf_X3_run mi_X3_run ml_RX5_131 (dk DX5_bestFold_0 24 rfl) [7, 8, 9, 10, 11, 4, 5, 6] rfl rfl rfl rfl (Nat.le_of_ble_eq_true rfl) rfl rfl ⟨Nat.le_of_ble_eq_true rfl, Nat.le_of_ble_eq_true rfl⟩ ⟨Nat.zero_le _, Nat.zero_le _⟩ (fun r9 w9 hq9 => ?_)
        obtain ⟨rfl, sz44, rc44, en44, sn44, nd44, ln44, hres44, rfl⟩ := hq9
        simp only [put_cons, put_nil, List.set_cons_zero, List.set_cons_succ]
        have hSx : SRx (updS s 0 (n + 2)) rc44 en44 nd44 ln44 := SRes.plan hok2 (fun t ht => (e1.1 t ht).2.1) hres44
        rw [show rc44 = nI (cnt (fS (updS s 0 (n + 2))) 16) from hSx.1]
        refine st_aload_n C (dk DX5_bestFold_0 25 rfl) rfl ?_
        refine st_get C fl_RX5_29 (dk DX5_bestFold_0 26 rfl) 0 rfl rfl ?_
        refine st_cV C (k_X3_sumOfLengths l G) mf_X3_sumOfLengths mi_X3_sumOfLengths ml_RX5_190 (dk DX5_bestFold_0 27 rfl) [7, 11] rfl rfl rfl rfl (Nat.le_of_ble_eq_true rfl) rfl rfl ⟨Nat.le_of_ble_eq_true rfl, Nat.le_of_ble_eq_true rfl⟩ ⟨Nat.zero_le _, Nat.zero_le _⟩ (fun r9 w9 hq9 => ?_)
        obtain ⟨rfl, rfl⟩ := hq9
        show P _ _ _ _ _ [_, _, _, _, _, _, _, _, _, _, _, _]
        rw [hSx.sum hok2 16 (Nat.le_refl _)]
        refine st_istore C (dk DX5_bestFold_0 28 rfl) (by decide) rfl ?_
        refine st_aload_n C (dk DX5_bestFold_0 29 rfl) rfl ?_
        refine st_get C fl_RX5_29 (dk DX5_bestFold_0 30 rfl) 0 rfl rfl ?_
        refine st_get C fl_RX5_193 (dk DX5_bestFold_0 31 rfl) 7 rfl rfl ?_
        refine st_iload_n C (dk DX5_bestFold_0 32 rfl) rfl ?_
        refine st_icmp_gt C (tgt := 84) (dk DX5_bestFold_0 33 rfl) (by decide) (fun c_64 => ?_) (fun c_64 => ?_)
        · refine st_iload C (dk DX5_bestFold_1 2 rfl) rfl ?_
          refine st_istore_n C (dk DX5_bestFold_1 3 rfl) (by decide) rfl ?_
          refine st_aload_n C (dk DX5_bestFold_1 4 rfl) rfl ?_
          refine st_get C fl_RX5_29 (dk DX5_bestFold_1 5 rfl) 0 rfl rfl ?_
          refine st_get C fl_RX5_193 (dk DX5_bestFold_1 6 rfl) 7 rfl rfl ?_
          refine st_istore_n C (dk DX5_bestFold_1 7 rfl) (by decide) rfl ?_
          refine st_iload C (dk DX5_bestFold_1 8 rfl) rfl ?_
          refine st_istore_n C (dk DX5_bestFold_1 9 rfl) (by decide) rfl ?_
          refine st_iinc C (dk DX5_bestFold_1 10 rfl) rfl (iadd_ofInt _ (1) (1) (by decide)) (by decide) rfl ?_
          refine st_goto C (tgt := 20) (dk DX5_bestFold_1 11 rfl) (by decide) ?_
          refine st_lv C [0, 1, 2, 3, 4] rfl ?_
          exact ih (i + 1) _ _ _ _ _ _ _ _ _ _ _ _ _ (n + 1) (by omega) (up_nI hx) (by omega) hO (by rw [(bst_T rfl (by rw [← hb2, ← hb3]; exact Or.inl c_64))]) (by rw [(bst_T rfl (by rw [← hb2, ← hb3]; exact Or.inl c_64))]) (fun _ => by rw [(bst_T rfl (by rw [← hb2, ← hb3]; exact Or.inl c_64))])
        · refine st_aload_n C (dk DX5_bestFold_0 34 rfl) rfl ?_
          refine st_get C fl_RX5_29 (dk DX5_bestFold_0 35 rfl) 0 rfl rfl ?_
          refine st_get C fl_RX5_193 (dk DX5_bestFold_0 36 rfl) 7 rfl rfl ?_
          refine st_iload_n C (dk DX5_bestFold_0 37 rfl) rfl ?_
          refine st_icmp_ne C (tgt := 98) (dk DX5_bestFold_0 38 rfl) (by decide) (fun c_75 => ?_) (fun c_75 => ?_)
          · refine st_iinc C (dk DX5_bestFold_1 10 rfl) rfl (iadd_ofInt _ (1) (1) (by decide)) (by decide) rfl ?_
            refine st_goto C (tgt := 20) (dk DX5_bestFold_1 11 rfl) (by decide) ?_
            refine st_lv C [0, 1, 2, 3, 4] rfl ?_
            exact ih (i + 1) _ _ _ _ _ _ _ _ _ _ _ _ _ (n + 1) (by omega) (up_nI hx) (by omega) hO (by rw [(bst_F rfl (by rw [← hb2, ← hb3]; exact fun h => h.elim (fun h => c_64 h) (fun h => c_75 h.1)))]; exact hb2) (by rw [(bst_F rfl (by rw [← hb2, ← hb3]; exact fun h => h.elim (fun h => c_64 h) (fun h => c_75 h.1)))]; exact hb3) (fun _ => by
              rw [(bst_F rfl (by rw [← hb2, ← hb3]; exact fun h => h.elim (fun h => c_64 h) (fun h => c_75 h.1)))]
              refine hb1 (Nat.pos_of_ne_zero (fun hn0 => ?_))
              subst hn0
              exact c_64 (by rw [hb2]; exact (lt_nI (a := 0) (i := cnt (fS (updS s 0 (0 + 2))) 16) (by decide) (by have := cnt_le (fS (updS s 0 (0 + 2))) 16; omega) rfl rfl).mpr (cnt_pos hok2)))
          · refine st_iload C (dk DX5_bestFold_0 39 rfl) rfl ?_
            refine st_iload_n C (dk DX5_bestFold_1 0 rfl) rfl ?_
            refine st_icmp_ge C (tgt := 98) (dk DX5_bestFold_1 1 rfl) (by decide) (fun c_81 => ?_) (fun c_81 => ?_)
            · refine st_iinc C (dk DX5_bestFold_1 10 rfl) rfl (iadd_ofInt _ (1) (1) (by decide)) (by decide) rfl ?_
              refine st_goto C (tgt := 20) (dk DX5_bestFold_1 11 rfl) (by decide) ?_
              refine st_lv C [0, 1, 2, 3, 4] rfl ?_
              exact ih (i + 1) _ _ _ _ _ _ _ _ _ _ _ _ _ (n + 1) (by omega) (up_nI hx) (by omega) hO (by rw [(bst_F rfl (by rw [← hb2, ← hb3]; exact fun h => h.elim (fun h => c_64 h) (fun h => absurd h.2 (Int32.not_lt.mpr c_81))))]; exact hb2) (by rw [(bst_F rfl (by rw [← hb2, ← hb3]; exact fun h => h.elim (fun h => c_64 h) (fun h => absurd h.2 (Int32.not_lt.mpr c_81))))]; exact hb3) (fun _ => by
                rw [(bst_F rfl (by rw [← hb2, ← hb3]; exact fun h => h.elim (fun h => c_64 h) (fun h => absurd h.2 (Int32.not_lt.mpr c_81))))]
                refine hb1 (Nat.pos_of_ne_zero (fun hn0 => ?_))
                subst hn0
                exact c_64 (by rw [hb2]; exact (lt_nI (a := 0) (i := cnt (fS (updS s 0 (0 + 2))) 16) (by decide) (by have := cnt_le (fS (updS s 0 (0 + 2))) 16; omega) rfl rfl).mpr (cnt_pos hok2)))
            · refine st_iload C (dk DX5_bestFold_1 2 rfl) rfl ?_
              refine st_istore_n C (dk DX5_bestFold_1 3 rfl) (by decide) rfl ?_
              refine st_aload_n C (dk DX5_bestFold_1 4 rfl) rfl ?_
              refine st_get C fl_RX5_29 (dk DX5_bestFold_1 5 rfl) 0 rfl rfl ?_
              refine st_get C fl_RX5_193 (dk DX5_bestFold_1 6 rfl) 7 rfl rfl ?_
              refine st_istore_n C (dk DX5_bestFold_1 7 rfl) (by decide) rfl ?_
              refine st_iload C (dk DX5_bestFold_1 8 rfl) rfl ?_
              refine st_istore_n C (dk DX5_bestFold_1 9 rfl) (by decide) rfl ?_
              refine st_iinc C (dk DX5_bestFold_1 10 rfl) rfl (iadd_ofInt _ (1) (1) (by decide)) (by decide) rfl ?_
              refine st_goto C (tgt := 20) (dk DX5_bestFold_1 11 rfl) (by decide) ?_
              refine st_lv C [0, 1, 2, 3, 4] rfl ?_
              exact ih (i + 1) _ _ _ _ _ _ _ _ _ _ _ _ _ (n + 1) (by omega) (up_nI hx) (by omega) hO (by rw [(bst_T rfl (by rw [← hb2, ← hb3]; exact Or.inr ⟨by first | exact c_75 | exact Decidable.not_not.mp c_75, Int32.not_le.mp c_81⟩))]) (by rw [(bst_T rfl (by rw [← hb2, ← hb3]; exact Or.inr ⟨by first | exact c_75 | exact Decidable.not_not.mp c_75, Int32.not_le.mp c_81⟩))]) (fun _ => by rw [(bst_T rfl (by rw [← hb2, ← hb3]; exact Or.inr ⟨by first | exact c_75 | exact Decidable.not_not.mp c_75, Int32.not_le.mp c_81⟩))])
  refine st_iconst C (v := 2) (dk DX5_bestFold_0 0 rfl) (by decide) ?_
  refine st_istore_n C (dk DX5_bestFold_0 1 rfl) (by decide) rfl ?_
  refine st_iconst C (v := 0) (dk DX5_bestFold_0 2 rfl) (by decide) ?_
  refine st_istore_n C (dk DX5_bestFold_0 3 rfl) (by decide) rfl ?_
  refine st_iconst C (v := 0) (dk DX5_bestFold_0 4 rfl) (by decide) ?_
  refine st_istore_n C (dk DX5_bestFold_0 5 rfl) (by decide) rfl ?_
  refine st_aload_n C (dk DX5_bestFold_0 6 rfl) rfl ?_
  refine st_get C fl_RX5_16 (dk DX5_bestFold_0 7 rfl) 0 rfl rfl ?_
  refine st_aload_n C (dk DX5_bestFold_0 8 rfl) rfl ?_
  refine st_get C fl_RX5_10 (dk DX5_bestFold_0 9 rfl) 0 rfl rfl ?_
  refine st_cV C (k_X1_copyFrom l G) mf_X1_copyFrom mi_X1_copyFrom ml_RX5_158 (dk DX5_bestFold_0 10 rfl) [4, 5, 6, 1, 2, 3] rfl rfl rfl rfl (Nat.le_of_ble_eq_true rfl) rfl rfl ⟨Nat.le_of_ble_eq_true rfl, Nat.le_of_ble_eq_true rfl⟩ ⟨Nat.zero_le _, Nat.zero_le _⟩ (fun r9 w9 hq9 => ?_)
  obtain ⟨rfl, lk14, ld14, hlk14, hld14, rfl⟩ := hq9
  show P _ _ _ _ _ [_, _, _, _, _, _, _, _, _, _, _, _]
  refine st_iconst C (v := 2) (dk DX5_bestFold_0 11 rfl) (by decide) ?_
  refine st_istore C (dk DX5_bestFold_0 12 rfl) (by decide) rfl ?_
  exact outer 7 2 _ _ _ _ _ _ _ _ _ _ _ _ _ 0 (by omega) rfl rfl (hC.copy hlk14 hld14) rfl rfl (fun h => absurd h (Nat.lt_irrefl 0))
