/-! the landed class: walk, append, clearBuffer, firstError, corridor, undo -/
theorem SRx.len {s : mS} {rc : Int32} {en nd ln : Nat → Int32} (h : SRx s rc en nd ln) {c : Nat} (hc : c < 16) : rLen ln (nI c) = lnOf (fS s) c := by
  unfold rLen
  rw [rIn_nI (n := 16) (m := 16) (by omega) (by decide) rfl, if_pos hc, if_neg (by decide), nI_clamp (by omega), h.2.1 c hc]
set_option maxHeartbeats 4000000 in
set_option maxRecDepth 100000 in
theorem k_X5_walk (l : Launch) (G : wG) (hlt : l.stackTraces = false) {K p q1 q2 o v v1 t t1 t2 t3 t4 y : Nat} {s : mS} {ns lk ld : Nat → Int32} {u u1 u2 : Nat → Nat} {nx sz : Int32} {rs rl rd : Nat → Nat → Int32} {k : Nat} {pp : Nat → mS} {zz rc : Int32} {en : Nat → Int32} {sn : Nat → Int64} {nd ln : Nat → Int32} {x : Int32} (hC : CRep s ns lk ld) (hSv : SvR k pp nx sz rs rl rd) : ConX l G yX5_walk cX5_walk 4 (some .int) 9 1 6 [.ref K, .int x] [(K, ob 4 (kF p o v t y)), (p, ob 0 (cR q1 q2 ns)), (q1, aI G 15 lk), (q2, aI G 16 ld), (v, ob 1 (vF v1 nx sz)), (v1, aQ G 6 (fun k => some (u k))), (u 0, ob 0 (cR (u1 0) (u2 0) (rs 0))), (u1 0, aI G 15 (rl 0)), (u2 0, aI G 16 (rd 0)), (u 1, ob 0 (cR (u1 1) (u2 1) (rs 1))), (u1 1, aI G 15 (rl 1)), (u2 1, aI G 16 (rd 1)), (u 2, ob 0 (cR (u1 2) (u2 2) (rs 2))), (u1 2, aI G 15 (rl 2)), (u2 2, aI G 16 (rd 2)), (u 3, ob 0 (cR (u1 3) (u2 3) (rs 3))), (u1 3, aI G 15 (rl 3)), (u2 3, aI G 16 (rd 3)), (u 4, ob 0 (cR (u1 4) (u2 4) (rs 4))), (u1 4, aI G 15 (rl 4)), (u2 4, aI G 16 (rd 4)), (u 5, ob 0 (cR (u1 5) (u2 5) (rs 5))), (u1 5, aI G 15 (rl 5)), (u2 5, aI G 16 (rd 5)), (t, ob 2 (sF t1 t2 t3 t4 zz rc)), (t1, aI G 4624 en), (t2, aJ G 256 sn), (t3, aI G 16 nd), (t4, aI G 16 ln)] (fun r w1 w2 => w2 = [] ∧ (∃ j q, j ≤ 15 ∧ x = nI j ∧ fi (fS s) j = some q ∧ r = some (.int (nI (dst (fS s) q))) ∧ ∃ (ns9 lk9 ld9 : Nat → Int32) (nx9 sz9 : Int32) (rs9 rl9 rd9 : Nat → Nat → Int32) (zz9 rc9 : Int32) (en9 : Nat → Int32) (sn9 : Nat → Int64) (nd9 ln9 : Nat → Int32), CRep (wkS (fS s) j s (dst (fS s) q)) ns9 lk9 ld9 ∧ SvR (svK k) (svP s k pp) nx9 sz9 rs9 rl9 rd9 ∧ w1 = [(K, ob 4 (kF p o v t y)), (p, ob 0 (cR q1 q2 ns9)), (q1, aI G 15 lk9), (q2, aI G 16 ld9), (v, ob 1 (vF v1 nx9 sz9)), (v1, aQ G 6 (fun k => some (u k))), (u 0, ob 0 (cR (u1 0) (u2 0) (rs9 0))), (u1 0, aI G 15 (rl9 0)), (u2 0, aI G 16 (rd9 0)), (u 1, ob 0 (cR (u1 1) (u2 1) (rs9 1))), (u1 1, aI G 15 (rl9 1)), (u2 1, aI G 16 (rd9 1)), (u 2, ob 0 (cR (u1 2) (u2 2) (rs9 2))), (u1 2, aI G 15 (rl9 2)), (u2 2, aI G 16 (rd9 2)), (u 3, ob 0 (cR (u1 3) (u2 3) (rs9 3))), (u1 3, aI G 15 (rl9 3)), (u2 3, aI G 16 (rd9 3)), (u 4, ob 0 (cR (u1 4) (u2 4) (rs9 4))), (u1 4, aI G 15 (rl9 4)), (u2 4, aI G 16 (rd9 4)), (u 5, ob 0 (cR (u1 5) (u2 5) (rs9 5))), (u1 5, aI G 15 (rl9 5)), (u2 5, aI G 16 (rd9 5)), (t, ob 2 (sF t1 t2 t3 t4 zz9 rc9)), (t1, aI G 4624 en9), (t2, aJ G 256 sn9), (t3, aI G 16 nd9), (t4, aI G 16 ln9)])) (fun E w1 => (E = xIO ∧ ¬ isN x 15 ∧ w1 = [(K, ob 4 (kF p o v t y)), (p, ob 0 (cR q1 q2 ns)), (q1, aI G 15 lk), (q2, aI G 16 ld), (v, ob 1 (vF v1 nx sz)), (v1, aQ G 6 (fun k => some (u k))), (u 0, ob 0 (cR (u1 0) (u2 0) (rs 0))), (u1 0, aI G 15 (rl 0)), (u2 0, aI G 16 (rd 0)), (u 1, ob 0 (cR (u1 1) (u2 1) (rs 1))), (u1 1, aI G 15 (rl 1)), (u2 1, aI G 16 (rd 1)), (u 2, ob 0 (cR (u1 2) (u2 2) (rs 2))), (u1 2, aI G 15 (rl 2)), (u2 2, aI G 16 (rd 2)), (u 3, ob 0 (cR (u1 3) (u2 3) (rs 3))), (u1 3, aI G 15 (rl 3)), (u2 3, aI G 16 (rd 3)), (u 4, ob 0 (cR (u1 4) (u2 4) (rs 4))), (u1 4, aI G 15 (rl 4)), (u2 4, aI G 16 (rd 4)), (u 5, ob 0 (cR (u1 5) (u2 5) (rs 5))), (u1 5, aI G 15 (rl 5)), (u2 5, aI G 16 (rd 5)), (t, ob 2 (sF t1 t2 t3 t4 zz rc)), (t1, aI G 4624 en), (t2, aJ G 256 sn), (t3, aI G 16 nd), (t4, aI G 16 ln)]) ∨ (E = xIS ∧ ∃ j, j ≤ 15 ∧ x = nI j ∧ fi (fS s) j = none ∧ ∃ (zz9 rc9 : Int32) (en9 : Nat → Int32) (sn9 : Nat → Int64) (nd9 ln9 : Nat → Int32), w1 = [(K, ob 4 (kF p o v t y)), (p, ob 0 (cR q1 q2 ns)), (q1, aI G 15 lk), (q2, aI G 16 ld), (v, ob 1 (vF v1 nx sz)), (v1, aQ G 6 (fun k => some (u k))), (u 0, ob 0 (cR (u1 0) (u2 0) (rs 0))), (u1 0, aI G 15 (rl 0)), (u2 0, aI G 16 (rd 0)), (u 1, ob 0 (cR (u1 1) (u2 1) (rs 1))), (u1 1, aI G 15 (rl 1)), (u2 1, aI G 16 (rd 1)), (u 2, ob 0 (cR (u1 2) (u2 2) (rs 2))), (u1 2, aI G 15 (rl 2)), (u2 2, aI G 16 (rd 2)), (u 3, ob 0 (cR (u1 3) (u2 3) (rs 3))), (u1 3, aI G 15 (rl 3)), (u2 3, aI G 16 (rd 3)), (u 4, ob 0 (cR (u1 4) (u2 4) (rs 4))), (u1 4, aI G 15 (rl 4)), (u2 4, aI G 16 (rd 4)), (u 5, ob 0 (cR (u1 5) (u2 5) (rs 5))), (u1 5, aI G 15 (rl 5)), (u2 5, aI G 16 (rd 5)), (t, ob 2 (sF t1 t2 t3 t4 zz9 rc9)), (t1, aI G 4624 en9), (t2, aJ G 256 sn9), (t3, aI G 16 nd9), (t4, aI G 16 ln9)])) := by
  refine ConX.mk hlt (Nat.le_of_ble_eq_true rfl) (by decide +kernel) (Nat.le_of_ble_eq_true rfl) (fun P C Rr Tr => ?_)
  refine st_iload_n C (dk DX5_walk_0 0 rfl) rfl ?_
  refine st_cS C (k_X5_isCell l G) mf_X5_isCell ms_X5_isCell ml_RX5_71 (dk DX5_walk_0 1 rfl) [] rfl rfl rfl rfl (Nat.le_of_ble_eq_true rfl) ⟨Nat.le_of_ble_eq_true rfl, Nat.le_of_ble_eq_true rfl⟩ ⟨Nat.zero_le _, Nat.zero_le _⟩ (fun r9 w9 hq9 => ?_)
  obtain ⟨rfl, rfl⟩ := hq9
  show P _ _ _ _ _ [_, _, _, _, _, _, _, _, _, _, _, _, _, _, _, _, _, _, _, _, _, _, _, _, _, _, _, _, _]
  refine st_if_ne C (tgt := 17) (dk DX5_walk_0 2 rfl) (by decide) (fun c_4 => ?_) (fun c_4 => ?_)
  · obtain ⟨j, hj, rfl⟩ := rIn_f (n := 15) (by decide) rfl c_4
    obtain ⟨j9, hj9, hnx9, -⟩ := id hSv
    obtain ⟨k1, k2, g1, g2, hkp, -⟩ := id hC.2.2.2.2
    obtain ⟨ec, e1, e2, e3⟩ := hC.srch
    obtain ⟨ns_0, hns⟩ : ∃ z, z = ns := ⟨_, rfl⟩
    refine st_aload_n C (dk DX5_walk_0 8 rfl) rfl ?_
    refine st_get C fl_RX5_29 (dk DX5_walk_0 9 rfl) 0 rfl rfl ?_
    refine st_aload_n C (dk DX5_walk_0 10 rfl) rfl ?_
    refine st_get C fl_RX5_10 (dk DX5_walk_0 11 rfl) 0 rfl rfl ?_
    refine st_cV C (k_X3_run l G e1 e2 e3) mf_X3_run mi_X3_run ml_RX5_131 (dk DX5_walk_0 12 rfl) [24, 25, 26, 27, 28, 1, 2, 3] rfl rfl rfl rfl (Nat.le_of_ble_eq_true rfl) rfl rfl ⟨Nat.le_of_ble_eq_true rfl, Nat.le_of_ble_eq_true rfl⟩ ⟨Nat.zero_le _, Nat.zero_le _⟩ (fun r9 w9 hq9 => ?_)
    obtain ⟨rfl, sz25, rc25, en25, sn25, nd25, ln25, hres25, rfl⟩ := hq9
    simp only [put_cons, put_nil, List.set_cons_zero, List.set_cons_succ]
    have hSx : SRx s rc25 en25 nd25 ln25 := SRes.plan hC.1 (fun t ht => (e1.1 t ht).2.1) hres25
    refine st_aload_n C (dk DX5_walk_0 13 rfl) rfl ?_
    refine st_get C fl_RX5_29 (dk DX5_walk_0 14 rfl) 0 rfl rfl ?_
    refine st_iload_n C (dk DX5_walk_0 15 rfl) rfl ?_
    refine st_cV C (k_X3_lengthTo l G) mf_X3_lengthTo mi_X3_lengthTo ml_RX5_134 (dk DX5_walk_0 16 rfl) [24, 28] rfl rfl rfl rfl (Nat.le_of_ble_eq_true rfl) rfl rfl ⟨Nat.le_of_ble_eq_true rfl, Nat.le_of_ble_eq_true rfl⟩ ⟨Nat.zero_le _, Nat.zero_le _⟩ (fun r9 w9 hq9 => ?_)
    obtain ⟨rfl, rfl⟩ := hq9
    show P _ _ _ _ _ [_, _, _, _, _, _, _, _, _, _, _, _, _, _, _, _, _, _, _, _, _, _, _, _, _, _, _, _, _]
    rw [hSx.len (c := j) (by omega)]
    refine st_istore_n C (dk DX5_walk_0 17 rfl) (by decide) rfl ?_
    refine st_iload_n C (dk DX5_walk_0 18 rfl) rfl ?_
    refine st_iconst C (v := -1) (dk DX5_walk_0 19 rfl) (by decide) ?_
    refine st_icmp_ne C (tgt := 52) (dk DX5_walk_0 20 rfl) (by decide) (fun c_39 => ?_) (fun c_39 => ?_)
    · obtain ⟨q, hq⟩ : ∃ q, fi (fS s) j = some q := by
        cases hq : fi (fS s) j with
        | none => exact absurd (lnOf_none hq) c_39
        | some q => exact ⟨q, rfl⟩
      have hds := dst_small hC.1 (fi_lt' hq)
      rw [lnOf_some hq]
      subst hns
      refine st_aload_n C (dk DX5_walk_0 26 rfl) rfl ?_
      refine st_get C fl_RX5_22 (dk DX5_walk_0 27 rfl) 0 rfl rfl ?_
      refine st_aload_n C (dk DX5_walk_0 28 rfl) rfl ?_
      refine st_get C fl_RX5_10 (dk DX5_walk_0 29 rfl) 0 rfl rfl ?_
      refine st_cV C (k_X2_push l G (v := v) (v1 := v1) (nx := nx) (sz := sz) (u := u) (u1 := u1) (u2 := u2) (rs := rs) (rl := rl) (rd := rd) (p := p) (q1 := q1) (q2 := q2) (ns := ns_0) (lk := lk) (ld := ld) hnx9 hj9) mf_X2_push mi_X2_push ml_RX5_59 (dk DX5_walk_0 30 rfl) [4, 5, 6, 7, 8, 9, 10, 11, 12, 13, 14, 15, 16, 17, 18, 19, 20, 21, 22, 23, 1, 2, 3] (hC_cons rfl (hC_cons rfl (hC_cons rfl (hC_cons rfl (hC_cons rfl (hC_cons rfl (hC_cons rfl (hC_cons rfl (hC_cons rfl (hC_cons rfl (hC_cons rfl (hC_cons rfl (hC_cons rfl (hC_cons rfl (hC_cons rfl (hC_cons rfl (hC_cons rfl (hC_cons rfl (hC_cons rfl (hC_cons rfl (hC_cons rfl (hC_cons rfl (hC_cons rfl (hC_nil)))))))))))))))))))))))) (by decide +kernel) rfl rfl (Nat.le_of_ble_eq_true rfl) rfl rfl ⟨Nat.le_of_ble_eq_true rfl, Nat.le_of_ble_eq_true rfl⟩ ⟨Nat.zero_le _, Nat.zero_le _⟩ (fun r9 w9 hq9 => ?_)
      obtain ⟨rfl, lk60, ld60, hlk60, hld60, rfl⟩ := hq9
      simp only [put_cons, put_nil, List.set_cons_zero, List.set_cons_succ]
      refine st_iconst C (v := 0) (dk DX5_walk_0 31 rfl) (by decide) ?_
      refine st_istore_n C (dk DX5_walk_0 32 rfl) (by decide) rfl ?_
      have loop : ∀ (m i : Nat) (x : Int32) (ns : Nat → Int32), i + m = (dst (fS s) q) → x = nI i → CRep (wkS (fS s) j s i) ns lk ld → P 0 0 65 [(0, .ref K), (1, .int (nI j)), (2, .int (nI (dst (fS s) q))), (3, .int x)] [] [(K, ob 4 (kF p o v t y)), (p, ob 0 (cR q1 q2 ns)), (q1, aI G 15 lk), (q2, aI G 16 ld), (v, ob 1 (vF v1 (nx + 1 - (nx + 1) / 6 * 6) (rMin (sz + 1) 6))), (v1, aQ G 6 (fun k => some (u k))), (u 0, ob 0 (cR (u1 0) (u2 0) ((va_up rs j9 ns_0) 0))), (u1 0, aI G 15 ((va_up rl j9 lk60) 0)), (u2 0, aI G 16 ((va_up rd j9 ld60) 0)), (u 1, ob 0 (cR (u1 1) (u2 1) ((va_up rs j9 ns_0) 1))), (u1 1, aI G 15 ((va_up rl j9 lk60) 1)), (u2 1, aI G 16 ((va_up rd j9 ld60) 1)), (u 2, ob 0 (cR (u1 2) (u2 2) ((va_up rs j9 ns_0) 2))), (u1 2, aI G 15 ((va_up rl j9 lk60) 2)), (u2 2, aI G 16 ((va_up rd j9 ld60) 2)), (u 3, ob 0 (cR (u1 3) (u2 3) ((va_up rs j9 ns_0) 3))), (u1 3, aI G 15 ((va_up rl j9 lk60) 3)), (u2 3, aI G 16 ((va_up rd j9 ld60) 3)), (u 4, ob 0 (cR (u1 4) (u2 4) ((va_up rs j9 ns_0) 4))), (u1 4, aI G 15 ((va_up rl j9 lk60) 4)), (u2 4, aI G 16 ((va_up rd j9 ld60) 4)), (u 5, ob 0 (cR (u1 5) (u2 5) ((va_up rs j9 ns_0) 5))), (u1 5, aI G 15 ((va_up rl j9 lk60) 5)), (u2 5, aI G 16 ((va_up rd j9 ld60) 5)), (t, ob 2 (sF t1 t2 t3 t4 sz25 rc25)), (t1, aI G 4624 en25), (t2, aJ G 256 sn25), (t3, aI G 16 nd25), (t4, aI G 16 ln25)] := by
        intro m
        induction m with
        | zero =>
          intro i x ns hi hx hCi
          have hin : i = (dst (fS s) q) := by omega
          refine st_iload_n C (dk DX5_walk_0 33 rfl) rfl ?_
          refine st_iload_n C (dk DX5_walk_0 34 rfl) rfl ?_
          refine st_icmp_ge C (tgt := 92) (dk DX5_walk_0 35 rfl) (by decide) (fun c_67 => ?_) (fun c_67 => ?_)
          · refine st_iload_n C (dk DX5_walk_1 6 rfl) rfl ?_
            exact Rr 0 0 _ _ _ _ _ _ (Nat.zero_le _) (Nat.zero_le _) (dk DX5_walk_1 7 rfl) (.inr (.inl ⟨_, rfl, rfl, rfl, rfl⟩)) rfl ⟨rfl, ⟨j, q, hj, rfl, hq, rfl, ns, lk, ld, _, _, va_up rs j9 ns_0, va_up rl j9 lk60, va_up rd j9 ld60, sz25, rc25, en25, sn25, nd25, ln25, hin ▸ hCi, hSv.push2 (hC.copy hlk60 hld60) hj9 hnx9, rfl⟩⟩
          · exact absurd ((ge_nI (a := dst (fS s) q) (i := i) (by omega) (by omega) rfl hx).mpr (by omega)) c_67
        | succ m ih =>
          intro i x ns hi hx hCi
          obtain ⟨hst, hrf⟩ := (wk_TR hC.1 hkp hq (i + 1) (by omega)).2 i (by omega)
          obtain ⟨ns9, e9, h9⟩ := hCi.take hst hrf q1 q2
          refine st_iload_n C (dk DX5_walk_0 33 rfl) rfl ?_
          refine st_iload_n C (dk DX5_walk_0 34 rfl) rfl ?_
          refine st_icmp_ge C (tgt := 92) (dk DX5_walk_0 35 rfl) (by decide) (fun c_67 => ?_) (fun c_67 => ?_)
          · exact absurd ((ge_nI (a := dst (fS s) q) (i := i) (by omega) (by omega) rfl hx).mp c_67) (by omega)
          · refine st_aload_n C (dk DX5_walk_0 36 rfl) rfl ?_
            refine st_get C fl_RX5_10 (dk DX5_walk_0 37 rfl) 0 rfl rfl ?_
            refine st_aload_n C (dk DX5_walk_0 38 rfl) rfl ?_
            refine st_get C fl_RX5_29 (dk DX5_walk_0 39 rfl) 0 rfl rfl ?_
            refine st_iload_n C (dk DX5_walk_1 0 rfl) rfl ?_
            refine st_iload_n C (dk DX5_walk_1 1 rfl) rfl ?_
            refine st_cV C (k_X3_stepTo l G) mf_X3_stepTo mi_X3_stepTo ml_RX5_139 (dk DX5_walk_1 2 rfl) [24, 25, 27, 28] rfl rfl rfl rfl (Nat.le_of_ble_eq_true rfl) rfl rfl ⟨Nat.le_of_ble_eq_true rfl, Nat.le_of_ble_eq_true rfl⟩ ⟨Nat.zero_le _, Nat.zero_le _⟩ (fun r9 w9 hq9 => ?_)
            obtain ⟨rfl, rfl⟩ := hq9
            show P _ _ _ _ _ [_, _, _, _, _, _, _, _, _, _, _, _, _, _, _, _, _, _, _, _, _, _, _, _, _, _, _, _, _]
            rw [show rStepTo en25 nd25 ln25 (nI j) x = nI (plN (fS s) j i) by rw [hx, hSx.2.2 j i (by omega) (by omega)]; exact plI_plN hq (by omega)]
            refine st_cV C (k_X1_take l G) mf_X1_take mi_X1_take ml_RX5_127 (dk DX5_walk_1 3 rfl) [1, 2, 3] rfl rfl rfl rfl (Nat.le_of_ble_eq_true rfl) rfl rfl ⟨Nat.le_of_ble_eq_true rfl, Nat.le_of_ble_eq_true rfl⟩ ⟨Nat.zero_le _, Nat.zero_le _⟩ (fun r9 w9 hq9 => ?_)
            obtain ⟨rfl, rfl⟩ := hq9
            show P _ _ _ _ _ [_, _, _, _, _, _, _, _, _, _, _, _, _, _, _, _, _, _, _, _, _, _, _, _, _, _, _, _, _]
            rw [e9]
            refine st_iinc C (dk DX5_walk_1 4 rfl) rfl (iadd_ofInt _ (1) (1) (by decide)) (by decide) rfl ?_
            refine st_goto C (tgt := 65) (dk DX5_walk_1 5 rfl) (by decide) ?_
            exact ih (i + 1) _ _ (by omega) (up_nI hx) h9
      exact loop (dst (fS s) q) 0 _ _ (by omega) rfl hC
    · exact Tr _ _ _ _ _ _ _ _ _ _ _ tf_90 sr_137 (Nat.le_of_ble_eq_true rfl) (Nat.le_of_ble_eq_true rfl) (dk DX5_walk_0 21 rfl) (dk DX5_walk_0 22 rfl) (dk DX5_walk_0 23 rfl) (dk DX5_walk_0 24 rfl) (dk DX5_walk_0 25 rfl) (Nat.le_of_ble_eq_true rfl) rfl (Or.inr ⟨rfl, j, hj, rfl, by
  cases hq : fi (fS s) j with
  | none => rfl
  | some q =>
    have h1 := dst_small hC.1 (fi_lt' hq)
    rw [lnOf_some hq] at c_39
    exact absurd c_39 (nI_m1 (by omega)), _, _, _, _, _, _, rfl⟩)
  · exact Tr _ _ _ _ _ _ _ _ _ _ _ tf_44 sr_74 (Nat.le_of_ble_eq_true rfl) (Nat.le_of_ble_eq_true rfl) (dk DX5_walk_0 3 rfl) (dk DX5_walk_0 4 rfl) (dk DX5_walk_0 5 rfl) (dk DX5_walk_0 6 rfl) (dk DX5_walk_0 7 rfl) (Nat.le_of_ble_eq_true rfl) rfl (Or.inl ⟨rfl, rIn_t (n := 15) (by decide) rfl c_4, rfl⟩)
set_option maxHeartbeats 4000000 in
set_option maxRecDepth 100000 in
theorem k_X5_append (l : Launch) (G : wG) (hlt : l.stackTraces = false) {K p o v t y y1 : Nat} {tl ce la : Int32} {cd : Nat → Int32} {n : Nat} {x : Int32} (htl : tl = nI n) (hn : n ≤ 60) : ConX l G yX5_append cX5_append 2 (some .int) 6 1 6 [.ref K, .int x] [(K, ob 4 (kF p o v t y)), (y, ob 3 (tF y1 tl ce la)), (y1, aI G 60 cd)] (fun r w1 w2 => w2 = [] ∧ (∃ j, 33 ≤ j ∧ j ≤ 126 ∧ x = nI j ∧ n < 60 ∧ r = some (.int (nI (n + 1))) ∧ w1 = [(K, ob 4 (kF p o v t y)), (y, ob 3 (tF y1 (nI (n + 1)) ce la)), (y1, aI G 60 (upd cd n (nI j)))])) (fun E w1 => (E = xIA ∧ ¬ isR x 33 126 ∧ w1 = [(K, ob 4 (kF p o v t y)), (y, ob 3 (tF y1 tl ce la)), (y1, aI G 60 cd)]) ∨ (E = xIS ∧ isR x 33 126 ∧ n = 60 ∧ w1 = [(K, ob 4 (kF p o v t y)), (y, ob 3 (tF y1 tl ce la)), (y1, aI G 60 cd)])) := by
  refine ConX.mk hlt (Nat.le_of_ble_eq_true rfl) (by decide +kernel) (Nat.le_of_ble_eq_true rfl) (fun P C Rr Tr => ?_)
  refine st_iload_n C (dk DX5_append_0 0 rfl) rfl ?_
  refine st_bipush C (v := 33) (dk DX5_append_0 1 rfl) (by decide) ?_
  refine st_icmp_lt C (tgt := 12) (dk DX5_append_0 2 rfl) (by decide) (fun c_3 => ?_) (fun c_3 => ?_)
  · exact Tr _ _ _ _ _ _ _ _ _ _ _ tf_54 sr_142 (Nat.le_of_ble_eq_true rfl) (Nat.le_of_ble_eq_true rfl) (dk DX5_append_0 6 rfl) (dk DX5_append_0 7 rfl) (dk DX5_append_0 8 rfl) (dk DX5_append_0 9 rfl) (dk DX5_append_0 10 rfl) (Nat.le_of_ble_eq_true rfl) rfl (Or.inl ⟨rfl, isR_lo (a := 33) (n := 126) (by decide) (by decide) rfl c_3, rfl⟩)
  · refine st_iload_n C (dk DX5_append_0 3 rfl) rfl ?_
    refine st_bipush C (v := 126) (dk DX5_append_0 4 rfl) (by decide) ?_
    refine st_icmp_le C (tgt := 22) (dk DX5_append_0 5 rfl) (by decide) (fun c_9 => ?_) (fun c_9 => ?_)
    · refine st_aload_n C (dk DX5_append_0 11 rfl) rfl ?_
      refine st_get C fl_RX5_36 (dk DX5_append_0 12 rfl) 0 rfl rfl ?_
      refine st_get C fl_RX5_144 (dk DX5_append_0 13 rfl) 1 rfl rfl ?_
      refine st_bipush C (v := 60) (dk DX5_append_0 14 rfl) (by decide) ?_
      refine st_icmp_lt C (tgt := 44) (dk DX5_append_0 15 rfl) (by decide) (fun c_31 => ?_) (fun c_31 => ?_)
      · obtain ⟨j, hj, hj2, rfl⟩ := isR_le (a := 33) (n := 126) (by decide) (by decide) rfl rfl c_3 c_9
        have hn60 := (lt_nI (a := n) (i := 60) (by omega) (by decide) htl rfl).mp c_31
        subst htl
        refine st_aload_n C (dk DX5_append_0 21 rfl) rfl ?_
        refine st_get C fl_RX5_36 (dk DX5_append_0 22 rfl) 0 rfl rfl ?_
        refine st_iload_n C (dk DX5_append_0 23 rfl) rfl ?_
        refine st_cV C (k_X4_add l G) mf_X4_add mi_X4_add ml_RX5_147 (dk DX5_append_0 24 rfl) [1, 2] rfl rfl rfl rfl (Nat.le_of_ble_eq_true rfl) rfl rfl ⟨Nat.le_of_ble_eq_true rfl, Nat.le_of_ble_eq_true rfl⟩ ⟨Nat.zero_le _, Nat.zero_le _⟩ (fun r9 w9 hq9 => ?_)
        obtain ⟨rfl, rfl⟩ := hq9
        show P _ _ _ _ _ [_, _, _]
        have z0 : ¬ nI n < 0 := nI_pos (by omega)
        have z1 : ¬ 60 ≤ nI n := fun e => by have := (ge_nI (a := 60) (i := n) (by decide) (by omega) rfl rfl).mp e; omega
        rw [if_neg z0, if_neg z1, if_neg z0, if_neg z1, nI_1, nI_clamp (by omega)]
        refine st_aload_n C (dk DX5_append_0 25 rfl) rfl ?_
        refine st_get C fl_RX5_36 (dk DX5_append_0 26 rfl) 0 rfl rfl ?_
        refine st_get C fl_RX5_144 (dk DX5_append_0 27 rfl) 1 rfl rfl ?_
        exact Rr 0 0 _ _ _ _ _ _ (Nat.zero_le _) (Nat.zero_le _) (dk DX5_append_0 28 rfl) (.inr (.inl ⟨_, rfl, rfl, rfl, rfl⟩)) rfl ⟨rfl, ⟨j, hj, hj2, rfl, hn60, rfl, rfl⟩⟩
      · exact Tr _ _ _ _ _ _ _ _ _ _ _ tf_90 sr_145 (Nat.le_of_ble_eq_true rfl) (Nat.le_of_ble_eq_true rfl) (dk DX5_append_0 16 rfl) (dk DX5_append_0 17 rfl) (dk DX5_append_0 18 rfl) (dk DX5_append_0 19 rfl) (dk DX5_append_0 20 rfl) (Nat.le_of_ble_eq_true rfl) rfl (Or.inr ⟨rfl, isR_le (a := 33) (n := 126) (by decide) (by decide) rfl rfl c_3 c_9, by have := mt (lt_nI (a := n) (i := 60) (by omega) (by decide) htl rfl).mpr c_31; omega, rfl⟩)
    · exact Tr _ _ _ _ _ _ _ _ _ _ _ tf_54 sr_142 (Nat.le_of_ble_eq_true rfl) (Nat.le_of_ble_eq_true rfl) (dk DX5_append_0 6 rfl) (dk DX5_append_0 7 rfl) (dk DX5_append_0 8 rfl) (dk DX5_append_0 9 rfl) (dk DX5_append_0 10 rfl) (Nat.le_of_ble_eq_true rfl) rfl (Or.inl ⟨rfl, isR_nle (a := 33) (n := 126) (by decide) rfl c_9, rfl⟩)
set_option maxHeartbeats 4000000 in
set_option maxRecDepth 100000 in
theorem k_X5_clearBuffer (l : Launch) (G : wG) {K p o v t y y1 : Nat} {tl ce la : Int32} {cd : Nat → Int32} : Con0 l G yX5_clearBuffer cX5_clearBuffer 2 (some .int) 0 [.ref K] [(K, ob 4 (kF p o v t y)), (y, ob 3 (tF y1 tl ce la)), (y1, aI G 60 cd)] (fun r w => r = some (.int tl) ∧ w = [(K, ob 4 (kF p o v t y)), (y, ob 3 (tF y1 0 ce la)), (y1, aI G 60 cd)]) := by
  refine Con.mk (by decide +kernel) (Nat.le_of_ble_eq_true rfl) (fun P C Rr => ?_)
  refine st_aload_n C (dk DX5_clearBuffer_0 0 rfl) rfl ?_
  refine st_get C fl_RX5_36 (dk DX5_clearBuffer_0 1 rfl) 0 rfl rfl ?_
  refine st_get C fl_RX5_144 (dk DX5_clearBuffer_0 2 rfl) 1 rfl rfl ?_
  refine st_istore_n C (dk DX5_clearBuffer_0 3 rfl) (by decide) rfl ?_
  refine st_aload_n C (dk DX5_clearBuffer_0 4 rfl) rfl ?_
  refine st_get C fl_RX5_36 (dk DX5_clearBuffer_0 5 rfl) 0 rfl rfl ?_
  refine st_iconst C (v := 0) (dk DX5_clearBuffer_0 6 rfl) (by decide) ?_
  refine st_put C fl_RX5_144 fc_3 fw_3_1 (dk DX5_clearBuffer_0 7 rfl) 1 rfl rfl rfl (Nat.le_of_ble_eq_true rfl) ?_
  refine st_iload_n C (dk DX5_clearBuffer_0 8 rfl) rfl ?_
  exact Rr 0 0 _ _ _ _ _ _ (Nat.zero_le _) (Nat.zero_le _) (dk DX5_clearBuffer_0 9 rfl) (.inr (.inl ⟨_, rfl, rfl, rfl, rfl⟩)) rfl ⟨rfl, ⟨rfl, rfl⟩⟩
set_option maxHeartbeats 4000000 in
set_option maxRecDepth 100000 in
theorem k_X5_firstError (l : Launch) (G : wG) {K p q1 q2 o o1 o2 v t y y1 : Nat} {s : mS} {ns lk ld : Nat → Int32} {os olk old : Nat → Int32} {tl ce la : Int32} {cd : Nat → Int32} {n : Nat} {tx : Nat → Nat} (htl : tl = nI n) (hn : n ≤ 60) (ht : hdT cd n tx) (hC : CRep s ns lk ld) : Con0 l G yX5_firstError cX5_firstError 1 (some .int) 6 [.ref K] [(K, ob 4 (kF p o v t y)), (p, ob 0 (cR q1 q2 ns)), (q1, aI G 15 lk), (q2, aI G 16 ld), (o, ob 0 (cR o1 o2 os)), (o1, aI G 15 olk), (o2, aI G 16 old), (y, ob 3 (tF y1 tl ce la)), (y1, aI G 60 cd)] (fun r w => r = some (.int (nI (fe tx n))) ∧ ∃ (c9 la9 : Int32) (ns9 lk9 ld9 : Nat → Int32), w = [(K, ob 4 (kF p o v t y)), (p, ob 0 (cR q1 q2 ns)), (q1, aI G 15 lk), (q2, aI G 16 ld), (o, ob 0 (cR o1 o2 ns9)), (o1, aI G 15 lk9), (o2, aI G 16 ld9), (y, ob 3 (tF y1 tl c9 la9)), (y1, aI G 60 cd)]) := by
  refine Con.mk (by decide +kernel) (Nat.le_of_ble_eq_true rfl) (fun P C Rr => ?_)
  refine st_aload_n C (dk DX5_firstError_0 0 rfl) rfl ?_
  refine st_cV C (k_X5_readText l G htl hn ht hC) mf_X5_readText mi_X5_readText ml_RX5_150 (dk DX5_firstError_0 1 rfl) [0, 1, 2, 3, 4, 5, 6, 7, 8] rfl rfl rfl rfl (Nat.le_of_ble_eq_true rfl) rfl rfl ⟨Nat.le_of_ble_eq_true rfl, Nat.le_of_ble_eq_true rfl⟩ ⟨Nat.zero_le _, Nat.zero_le _⟩ (fun r9 w9 hq9 => ?_)
  obtain ⟨rfl, c1, la1, dg1, kf1, df1, lf1, ns1, lk1, ld1, hq1, hC1, rfl⟩ := hq9
  simp only [put_cons, put_nil, List.set_cons_zero, List.set_cons_succ]
  exact Rr 0 0 _ _ _ _ _ _ (Nat.zero_le _) (Nat.zero_le _) (dk DX5_firstError_0 2 rfl) (.inr (.inl ⟨_, rfl, rfl, rfl, rfl⟩)) rfl ⟨rfl, ⟨rfl, _, _, ns1, lk1, ld1, rfl⟩⟩
set_option maxHeartbeats 4000000 in
set_option maxRecDepth 100000 in
theorem k_X5_corridor (l : Launch) (G : wG) (hlt : l.stackTraces = false) {K p q1 q2 o o1 o2 v v1 t y y1 : Nat} {s : mS} {ns lk ld : Nat → Int32} {os olk old : Nat → Int32} {u u1 u2 : Nat → Nat} {nx sz : Int32} {rs rl rd : Nat → Nat → Int32} {k : Nat} {pp : Nat → mS} {tl ce la : Int32} {cd : Nat → Int32} {n : Nat} {tx : Nat → Nat} (hC : CRep s ns lk ld) (hSv : SvR k pp nx sz rs rl rd) (htl : tl = nI n) (hn : n ≤ 60) (ht : hdT cd n tx) : ConX l G yX5_corridor cX5_corridor 1 (some .int) 7 1 6 [.ref K] [(K, ob 4 (kF p o v t y)), (p, ob 0 (cR q1 q2 ns)), (q1, aI G 15 lk), (q2, aI G 16 ld), (o, ob 0 (cR o1 o2 os)), (o1, aI G 15 olk), (o2, aI G 16 old), (v, ob 1 (vF v1 nx sz)), (v1, aQ G 6 (fun k => some (u k))), (u 0, ob 0 (cR (u1 0) (u2 0) (rs 0))), (u1 0, aI G 15 (rl 0)), (u2 0, aI G 16 (rd 0)), (u 1, ob 0 (cR (u1 1) (u2 1) (rs 1))), (u1 1, aI G 15 (rl 1)), (u2 1, aI G 16 (rd 1)), (u 2, ob 0 (cR (u1 2) (u2 2) (rs 2))), (u1 2, aI G 15 (rl 2)), (u2 2, aI G 16 (rd 2)), (u 3, ob 0 (cR (u1 3) (u2 3) (rs 3))), (u1 3, aI G 15 (rl 3)), (u2 3, aI G 16 (rd 3)), (u 4, ob 0 (cR (u1 4) (u2 4) (rs 4))), (u1 4, aI G 15 (rl 4)), (u2 4, aI G 16 (rd 4)), (u 5, ob 0 (cR (u1 5) (u2 5) (rs 5))), (u1 5, aI G 15 (rl 5)), (u2 5, aI G 16 (rd 5)), (y, ob 3 (tF y1 tl ce la)), (y1, aI G 60 cd)] (fun r w1 w2 => w2 = [] ∧ (∃ (c la dg : Nat) (kf df lf : mS), tRun tx (fe tx n) = some (c, la, dg, kf, df, lf) ∧ fe tx n = n ∧ c = 16 ∧ r = some (.int (nI (kcN (tS s kf df lf) 16))) ∧ ∃ (ns9 lk9 ld9 os9 olk9 old9 : Nat → Int32) (nx9 sz9 : Int32) (rs9 rl9 rd9 : Nat → Nat → Int32) (ce9 la9 : Int32), CRep (tS s kf df lf) ns9 lk9 ld9 ∧ SvR (svK k) (svP s k pp) nx9 sz9 rs9 rl9 rd9 ∧ w1 = [(K, ob 4 (kF p o v t y)), (p, ob 0 (cR q1 q2 ns9)), (q1, aI G 15 lk9), (q2, aI G 16 ld9), (o, ob 0 (cR o1 o2 os9)), (o1, aI G 15 olk9), (o2, aI G 16 old9), (v, ob 1 (vF v1 nx9 sz9)), (v1, aQ G 6 (fun k => some (u k))), (u 0, ob 0 (cR (u1 0) (u2 0) (rs9 0))), (u1 0, aI G 15 (rl9 0)), (u2 0, aI G 16 (rd9 0)), (u 1, ob 0 (cR (u1 1) (u2 1) (rs9 1))), (u1 1, aI G 15 (rl9 1)), (u2 1, aI G 16 (rd9 1)), (u 2, ob 0 (cR (u1 2) (u2 2) (rs9 2))), (u1 2, aI G 15 (rl9 2)), (u2 2, aI G 16 (rd9 2)), (u 3, ob 0 (cR (u1 3) (u2 3) (rs9 3))), (u1 3, aI G 15 (rl9 3)), (u2 3, aI G 16 (rd9 3)), (u 4, ob 0 (cR (u1 4) (u2 4) (rs9 4))), (u1 4, aI G 15 (rl9 4)), (u2 4, aI G 16 (rd9 4)), (u 5, ob 0 (cR (u1 5) (u2 5) (rs9 5))), (u1 5, aI G 15 (rl9 5)), (u2 5, aI G 16 (rd9 5)), (y, ob 3 (tF y1 0 ce9 la9)), (y1, aI G 60 cd)])) (fun E w1 => E = xIA ∧ ∃ (c la dg : Nat) (kf df lf : mS), tRun tx (fe tx n) = some (c, la, dg, kf, df, lf) ∧ ¬ (fe tx n = n ∧ c = 16) ∧ ∃ (os9 olk9 old9 : Nat → Int32) (ce9 la9 : Int32), w1 = [(K, ob 4 (kF p o v t y)), (p, ob 0 (cR q1 q2 ns)), (q1, aI G 15 lk), (q2, aI G 16 ld), (o, ob 0 (cR o1 o2 os9)), (o1, aI G 15 olk9), (o2, aI G 16 old9), (v, ob 1 (vF v1 nx sz)), (v1, aQ G 6 (fun k => some (u k))), (u 0, ob 0 (cR (u1 0) (u2 0) (rs 0))), (u1 0, aI G 15 (rl 0)), (u2 0, aI G 16 (rd 0)), (u 1, ob 0 (cR (u1 1) (u2 1) (rs 1))), (u1 1, aI G 15 (rl 1)), (u2 1, aI G 16 (rd 1)), (u 2, ob 0 (cR (u1 2) (u2 2) (rs 2))), (u1 2, aI G 15 (rl 2)), (u2 2, aI G 16 (rd 2)), (u 3, ob 0 (cR (u1 3) (u2 3) (rs 3))), (u1 3, aI G 15 (rl 3)), (u2 3, aI G 16 (rd 3)), (u 4, ob 0 (cR (u1 4) (u2 4) (rs 4))), (u1 4, aI G 15 (rl 4)), (u2 4, aI G 16 (rd 4)), (u 5, ob 0 (cR (u1 5) (u2 5) (rs 5))), (u1 5, aI G 15 (rl 5)), (u2 5, aI G 16 (rd 5)), (y, ob 3 (tF y1 tl ce9 la9)), (y1, aI G 60 cd)]) := by
  refine ConX.mk hlt (Nat.le_of_ble_eq_true rfl) (by decide +kernel) (Nat.le_of_ble_eq_true rfl) (fun P C Rr Tr => ?_)
  refine st_aload_n C (dk DX5_corridor_0 0 rfl) rfl ?_
  refine st_cV C (k_X5_readText l G htl hn ht hC) mf_X5_readText mi_X5_readText ml_RX5_150 (dk DX5_corridor_0 1 rfl) [0, 1, 2, 3, 4, 5, 6, 27, 28] rfl rfl rfl rfl (Nat.le_of_ble_eq_true rfl) rfl rfl ⟨Nat.le_of_ble_eq_true rfl, Nat.le_of_ble_eq_true rfl⟩ ⟨Nat.zero_le _, Nat.zero_le _⟩ (fun r9 w9 hq9 => ?_)
  obtain ⟨rfl, c1, la1, dg1, kf1, df1, lf1, ns1, lk1, ld1, hq1, hC1, rfl⟩ := hq9
  simp only [put_cons, put_nil, List.set_cons_zero, List.set_cons_succ]
  have hfl := fe_le tx n
  have hok1 := tRun_ok hq1
  have hc16 : c1 ≤ 16 := hok1.1
  refine st_aload_n C (dk DX5_corridor_0 2 rfl) rfl ?_
  refine st_get C fl_RX5_36 (dk DX5_corridor_0 3 rfl) 0 rfl rfl ?_
  refine st_get C fl_RX5_144 (dk DX5_corridor_0 4 rfl) 27 rfl rfl ?_
  refine st_icmp_lt C (tgt := 26) (dk DX5_corridor_0 5 rfl) (by decide) (fun c_11 => ?_) (fun c_11 => ?_)
  · exact Tr _ _ _ _ _ _ _ _ _ _ _ tf_54 sr_156 (Nat.le_of_ble_eq_true rfl) (Nat.le_of_ble_eq_true rfl) (dk DX5_corridor_0 11 rfl) (dk DX5_corridor_0 12 rfl) (dk DX5_corridor_0 13 rfl) (dk DX5_corridor_0 14 rfl) (dk DX5_corridor_0 15 rfl) (Nat.le_of_ble_eq_true rfl) rfl (⟨rfl, c1, la1, dg1, kf1, df1, lf1, hq1, fun h => by have := (lt_nI (a := fe tx n) (i := n) (by omega) (by omega) rfl htl).mp c_11; omega, ns1, lk1, ld1, _, _, rfl⟩)
  · refine st_aload_n C (dk DX5_corridor_0 6 rfl) rfl ?_
    refine st_get C fl_RX5_36 (dk DX5_corridor_0 7 rfl) 0 rfl rfl ?_
    refine st_get C fl_RX5_153 (dk DX5_corridor_0 8 rfl) 27 rfl rfl ?_
    refine st_bipush C (v := 16) (dk DX5_corridor_0 9 rfl) (by decide) ?_
    refine st_icmp_ge C (tgt := 36) (dk DX5_corridor_0 10 rfl) (by decide) (fun c_23 => ?_) (fun c_23 => ?_)
    · have hfn : fe tx n = n := by have := mt (lt_nI (a := fe tx n) (i := n) (x := nI (fe tx n)) (by omega) (by omega) rfl htl).mpr c_11; omega
      have h16 : c1 = 16 := by have := (ge_nI (a := 16) (i := c1) (x := 16) (y := nI c1) (by decide) (by omega) rfl rfl).mp c_23; omega
      obtain ⟨j9, hj9, hnx9, -⟩ := id hSv
      refine st_aload_n C (dk DX5_corridor_0 16 rfl) rfl ?_
      refine st_get C fl_RX5_22 (dk DX5_corridor_0 17 rfl) 0 rfl rfl ?_
      refine st_aload_n C (dk DX5_corridor_0 18 rfl) rfl ?_
      refine st_get C fl_RX5_10 (dk DX5_corridor_0 19 rfl) 0 rfl rfl ?_
      refine st_cV C (k_X2_push l G (v := v) (v1 := v1) (nx := nx) (sz := sz) (u := u) (u1 := u1) (u2 := u2) (rs := rs) (rl := rl) (rd := rd) (p := p) (q1 := q1) (q2 := q2) (ns := ns) (lk := lk) (ld := ld) hnx9 hj9) mf_X2_push mi_X2_push ml_RX5_59 (dk DX5_corridor_0 20 rfl) [7, 8, 9, 10, 11, 12, 13, 14, 15, 16, 17, 18, 19, 20, 21, 22, 23, 24, 25, 26, 1, 2, 3] (hC_cons rfl (hC_cons rfl (hC_cons rfl (hC_cons rfl (hC_cons rfl (hC_cons rfl (hC_cons rfl (hC_cons rfl (hC_cons rfl (hC_cons rfl (hC_cons rfl (hC_cons rfl (hC_cons rfl (hC_cons rfl (hC_cons rfl (hC_cons rfl (hC_cons rfl (hC_cons rfl (hC_cons rfl (hC_cons rfl (hC_cons rfl (hC_cons rfl (hC_cons rfl (hC_nil)))))))))))))))))))))))) (by decide +kernel) rfl rfl (Nat.le_of_ble_eq_true rfl) rfl rfl ⟨Nat.le_of_ble_eq_true rfl, Nat.le_of_ble_eq_true rfl⟩ ⟨Nat.zero_le _, Nat.zero_le _⟩ (fun r9 w9 hq9 => ?_)
      obtain ⟨rfl, lk44, ld44, hlk44, hld44, rfl⟩ := hq9
      simp only [put_cons, put_nil, List.set_cons_zero, List.set_cons_succ]
      refine st_aload_n C (dk DX5_corridor_0 21 rfl) rfl ?_
      refine st_get C fl_RX5_10 (dk DX5_corridor_0 22 rfl) 0 rfl rfl ?_
      refine st_aload_n C (dk DX5_corridor_0 23 rfl) rfl ?_
      refine st_get C fl_RX5_16 (dk DX5_corridor_0 24 rfl) 0 rfl rfl ?_
      refine st_cV C (k_X1_copyFrom l G) mf_X1_copyFrom mi_X1_copyFrom ml_RX5_158 (dk DX5_corridor_0 25 rfl) [1, 2, 3, 4, 5, 6] rfl rfl rfl rfl (Nat.le_of_ble_eq_true rfl) rfl rfl ⟨Nat.le_of_ble_eq_true rfl, Nat.le_of_ble_eq_true rfl⟩ ⟨Nat.zero_le _, Nat.zero_le _⟩ (fun r9 w9 hq9 => ?_)
      obtain ⟨rfl, lk55, ld55, hlk55, hld55, rfl⟩ := hq9
      show P _ _ _ _ _ [_, _, _, _, _, _, _, _, _, _, _, _, _, _, _, _, _, _, _, _, _, _, _, _, _, _, _, _, _]
      refine st_aload_n C (dk DX5_corridor_0 26 rfl) rfl ?_
      refine st_get C fl_RX5_36 (dk DX5_corridor_0 27 rfl) 0 rfl rfl ?_
      refine st_iconst C (v := 0) (dk DX5_corridor_0 28 rfl) (by decide) ?_
      refine st_put C fl_RX5_144 fc_3 fw_3_1 (dk DX5_corridor_0 29 rfl) 27 rfl rfl rfl (Nat.le_of_ble_eq_true rfl) ?_
      refine st_aload_n C (dk DX5_corridor_0 30 rfl) rfl ?_
      refine st_get C fl_RX5_10 (dk DX5_corridor_0 31 rfl) 0 rfl rfl ?_
      refine st_cV C (k_X1_keys l G) mf_X1_keys mi_X1_keys ml_RX5_86 (dk DX5_corridor_0 32 rfl) [1] rfl rfl rfl rfl (Nat.le_of_ble_eq_true rfl) rfl rfl ⟨Nat.le_of_ble_eq_true rfl, Nat.le_of_ble_eq_true rfl⟩ ⟨Nat.zero_le _, Nat.zero_le _⟩ (fun r9 w9 hq9 => ?_)
      obtain ⟨rfl, rfl⟩ := hq9
      show P _ _ _ _ _ [_, _, _, _, _, _, _, _, _, _, _, _, _, _, _, _, _, _, _, _, _, _, _, _, _, _, _, _, _]
      exact Rr 0 0 _ _ _ _ _ _ (Nat.zero_le _) (Nat.zero_le _) (dk DX5_corridor_0 33 rfl) (.inr (.inl ⟨_, rfl, rfl, rfl, rfl⟩)) rfl ⟨rfl, ⟨c1, la1, dg1, kf1, df1, lf1, hq1, hfn, h16, by rw [hC1.keys.1], ns1, lk55, ld55, ns1, lk1, ld1, _, _, va_up rs j9 ns, va_up rl j9 lk44, va_up rd j9 ld44, _, _, hC1.copy hlk55 hld55, hSv.push2 (hC.copy hlk44 hld44) hj9 hnx9, rfl⟩⟩
    · exact Tr _ _ _ _ _ _ _ _ _ _ _ tf_54 sr_156 (Nat.le_of_ble_eq_true rfl) (Nat.le_of_ble_eq_true rfl) (dk DX5_corridor_0 11 rfl) (dk DX5_corridor_0 12 rfl) (dk DX5_corridor_0 13 rfl) (dk DX5_corridor_0 14 rfl) (dk DX5_corridor_0 15 rfl) (Nat.le_of_ble_eq_true rfl) rfl (⟨rfl, c1, la1, dg1, kf1, df1, lf1, hq1, fun h => c_23 ((ge_nI (a := 16) (i := c1) (by decide) (by omega) rfl rfl).mpr (by omega)), ns1, lk1, ld1, _, _, rfl⟩)
set_option maxHeartbeats 4000000 in
set_option maxRecDepth 100000 in
theorem k_X5_undo (l : Launch) (G : wG) (hlt : l.stackTraces = false) {K p q1 q2 o v v1 t y : Nat} {ns lk ld : Nat → Int32} {u u1 u2 : Nat → Nat} {nx sz : Int32} {rs rl rd : Nat → Nat → Int32} {k : Nat} {pp : Nat → mS} (hSv : SvR k pp nx sz rs rl rd) : ConX l G yX5_undo cX5_undo 1 (some .int) 6 1 6 [.ref K] [(K, ob 4 (kF p o v t y)), (p, ob 0 (cR q1 q2 ns)), (q1, aI G 15 lk), (q2, aI G 16 ld), (v, ob 1 (vF v1 nx sz)), (v1, aQ G 6 (fun k => some (u k))), (u 0, ob 0 (cR (u1 0) (u2 0) (rs 0))), (u1 0, aI G 15 (rl 0)), (u2 0, aI G 16 (rd 0)), (u 1, ob 0 (cR (u1 1) (u2 1) (rs 1))), (u1 1, aI G 15 (rl 1)), (u2 1, aI G 16 (rd 1)), (u 2, ob 0 (cR (u1 2) (u2 2) (rs 2))), (u1 2, aI G 15 (rl 2)), (u2 2, aI G 16 (rd 2)), (u 3, ob 0 (cR (u1 3) (u2 3) (rs 3))), (u1 3, aI G 15 (rl 3)), (u2 3, aI G 16 (rd 3)), (u 4, ob 0 (cR (u1 4) (u2 4) (rs 4))), (u1 4, aI G 15 (rl 4)), (u2 4, aI G 16 (rd 4)), (u 5, ob 0 (cR (u1 5) (u2 5) (rs 5))), (u1 5, aI G 15 (rl 5)), (u2 5, aI G 16 (rd 5))] (fun r w1 w2 => w2 = [] ∧ (0 < k ∧ r = some (.int (nI (k - 1))) ∧ ∃ (ns9 lk9 ld9 : Nat → Int32) (nx9 sz9 : Int32), CRep (pp (k - 1)) ns9 lk9 ld9 ∧ SvR (k - 1) pp nx9 sz9 rs rl rd ∧ w1 = [(K, ob 4 (kF p o v t y)), (p, ob 0 (cR q1 q2 ns9)), (q1, aI G 15 lk9), (q2, aI G 16 ld9), (v, ob 1 (vF v1 nx9 sz9)), (v1, aQ G 6 (fun k => some (u k))), (u 0, ob 0 (cR (u1 0) (u2 0) (rs 0))), (u1 0, aI G 15 (rl 0)), (u2 0, aI G 16 (rd 0)), (u 1, ob 0 (cR (u1 1) (u2 1) (rs 1))), (u1 1, aI G 15 (rl 1)), (u2 1, aI G 16 (rd 1)), (u 2, ob 0 (cR (u1 2) (u2 2) (rs 2))), (u1 2, aI G 15 (rl 2)), (u2 2, aI G 16 (rd 2)), (u 3, ob 0 (cR (u1 3) (u2 3) (rs 3))), (u1 3, aI G 15 (rl 3)), (u2 3, aI G 16 (rd 3)), (u 4, ob 0 (cR (u1 4) (u2 4) (rs 4))), (u1 4, aI G 15 (rl 4)), (u2 4, aI G 16 (rd 4)), (u 5, ob 0 (cR (u1 5) (u2 5) (rs 5))), (u1 5, aI G 15 (rl 5)), (u2 5, aI G 16 (rd 5))])) (fun E w1 => E = xIS ∧ k = 0 ∧ w1 = [(K, ob 4 (kF p o v t y)), (p, ob 0 (cR q1 q2 ns)), (q1, aI G 15 lk), (q2, aI G 16 ld), (v, ob 1 (vF v1 nx sz)), (v1, aQ G 6 (fun k => some (u k))), (u 0, ob 0 (cR (u1 0) (u2 0) (rs 0))), (u1 0, aI G 15 (rl 0)), (u2 0, aI G 16 (rd 0)), (u 1, ob 0 (cR (u1 1) (u2 1) (rs 1))), (u1 1, aI G 15 (rl 1)), (u2 1, aI G 16 (rd 1)), (u 2, ob 0 (cR (u1 2) (u2 2) (rs 2))), (u1 2, aI G 15 (rl 2)), (u2 2, aI G 16 (rd 2)), (u 3, ob 0 (cR (u1 3) (u2 3) (rs 3))), (u1 3, aI G 15 (rl 3)), (u2 3, aI G 16 (rd 3)), (u 4, ob 0 (cR (u1 4) (u2 4) (rs 4))), (u1 4, aI G 15 (rl 4)), (u2 4, aI G 16 (rd 4)), (u 5, ob 0 (cR (u1 5) (u2 5) (rs 5))), (u1 5, aI G 15 (rl 5)), (u2 5, aI G 16 (rd 5))]) := by
  refine ConX.mk hlt (Nat.le_of_ble_eq_true rfl) (by decide +kernel) (Nat.le_of_ble_eq_true rfl) (fun P C Rr Tr => ?_)
  obtain ⟨j9, hj9, hnx9, hsz9, hk6, -⟩ := id hSv
  refine st_aload_n C (dk DX5_undo_0 0 rfl) rfl ?_
  refine st_get C fl_RX5_22 (dk DX5_undo_0 1 rfl) 0 rfl rfl ?_
  refine st_get C fl_RX5_161 (dk DX5_undo_0 2 rfl) 4 rfl rfl ?_
  refine st_if_ne C (tgt := 20) (dk DX5_undo_0 3 rfl) (by decide) (fun c_7 => ?_) (fun c_7 => ?_)
  · have hk0 : 0 < k := by
      have := mt (eq_nI (a := k) (i := 0) (by omega) (by decide) hsz9 rfl).mpr c_7
      omega
    obtain ⟨j8, hj8, hx8, hs8, hc8, hSv8, hz8⟩ := hSv.pop hk0
    refine st_aload_n C (dk DX5_undo_0 9 rfl) rfl ?_
    refine st_get C fl_RX5_22 (dk DX5_undo_0 10 rfl) 0 rfl rfl ?_
    refine st_aload_n C (dk DX5_undo_0 11 rfl) rfl ?_
    refine st_get C fl_RX5_10 (dk DX5_undo_0 12 rfl) 0 rfl rfl ?_
    refine st_cV C (k_X2_popInto l G (v := v) (v1 := v1) (nx := nx) (sz := sz) (u := u) (u1 := u1) (u2 := u2) (rs := rs) (rl := rl) (rd := rd) (p := p) (q1 := q1) (q2 := q2) (ns := ns) (lk := lk) (ld := ld) (j := j8) hx8 hj8 hs8) mf_X2_popInto mi_X2_popInto ml_RX5_166 (dk DX5_undo_0 13 rfl) [4, 5, 6, 7, 8, 9, 10, 11, 12, 13, 14, 15, 16, 17, 18, 19, 20, 21, 22, 23, 1, 2, 3] (hC_cons rfl (hC_cons rfl (hC_cons rfl (hC_cons rfl (hC_cons rfl (hC_cons rfl (hC_cons rfl (hC_cons rfl (hC_cons rfl (hC_cons rfl (hC_cons rfl (hC_cons rfl (hC_cons rfl (hC_cons rfl (hC_cons rfl (hC_cons rfl (hC_cons rfl (hC_cons rfl (hC_cons rfl (hC_cons rfl (hC_cons rfl (hC_cons rfl (hC_cons rfl (hC_nil)))))))))))))))))))))))) (by decide +kernel) rfl rfl (Nat.le_of_ble_eq_true rfl) rfl rfl ⟨Nat.le_of_ble_eq_true rfl, Nat.le_of_ble_eq_true rfl⟩ ⟨Nat.zero_le _, Nat.zero_le _⟩ (fun r9 w9 hq9 => ?_)
    obtain ⟨rfl, lk28, ld28, hlk28, hld28, rfl⟩ := hq9
    simp only [put_cons, put_nil, List.set_cons_zero, List.set_cons_succ]
    refine st_aload_n C (dk DX5_undo_0 14 rfl) rfl ?_
    refine st_get C fl_RX5_22 (dk DX5_undo_0 15 rfl) 0 rfl rfl ?_
    refine st_get C fl_RX5_161 (dk DX5_undo_0 16 rfl) 4 rfl rfl ?_
    exact Rr 0 0 _ _ _ _ _ _ (Nat.zero_le _) (Nat.zero_le _) (dk DX5_undo_0 17 rfl) (.inr (.inl ⟨_, rfl, rfl, rfl, rfl⟩)) rfl ⟨rfl, ⟨hk0, by rw [hz8], rs j8, lk28, ld28, _, _, hc8.copy hlk28 hld28, hSv8, rfl⟩⟩
  · exact Tr _ _ _ _ _ _ _ _ _ _ _ tf_90 sr_164 (Nat.le_of_ble_eq_true rfl) (Nat.le_of_ble_eq_true rfl) (dk DX5_undo_0 4 rfl) (dk DX5_undo_0 5 rfl) (dk DX5_undo_0 6 rfl) (dk DX5_undo_0 7 rfl) (dk DX5_undo_0 8 rfl) (Nat.le_of_ble_eq_true rfl) rfl (⟨rfl, (eq_nI (a := k) (i := 0) (by omega) (by decide) hsz9 rfl).mp c_7, rfl⟩)
