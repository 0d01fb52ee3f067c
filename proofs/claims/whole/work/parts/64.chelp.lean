/-! the landed class: its private methods -/
abbrev kF (p o v t y : Nat) : List Value := [.ref p, .ref o, .ref v, .ref t, .ref y]
set_option maxHeartbeats 4000000 in
set_option maxRecDepth 100000 in
theorem k_X4_readInto (l : Launch) (G : wG) {y y1 p q1 q2 : Nat} {s : mS} {ns lk ld : Nat → Int32} {tl ce la : Int32} {cd : Nat → Int32} {n : Nat} {tx : Nat → Nat} (htl : tl = nI n) (hn : n ≤ 60) (ht : hdT cd n tx) (hC : CRep (tS s z0 z0 z0) ns lk ld) : Con0 l G yX4_readInto cX4_readInto 3 (some .int) 4 [.ref y, .ref p] [(y, ob 3 (tF y1 tl ce la)), (y1, aI G 60 cd), (p, ob 0 (cR q1 q2 ns)), (q1, aI G 15 lk), (q2, aI G 16 ld)] (fun r w => r = some (.int (nI (fe tx n))) ∧ ∃ (c9 la9 dg9 : Nat) (kf9 df9 lf9 : mS) (ns9 lk9 ld9 : Nat → Int32), tRun tx (fe tx n) = some (c9, la9, dg9, kf9, df9, lf9) ∧ CRep (tS s kf9 df9 lf9) ns9 lk9 ld9 ∧ w = [(y, ob 3 (tF y1 tl (nI c9) (nI la9))), (y1, aI G 60 cd), (p, ob 0 (cR q1 q2 ns9)), (q1, aI G 15 lk9), (q2, aI G 16 ld9)]) := by
  refine Con.mk (by decide +kernel) (Nat.le_of_ble_eq_true rfl) (fun P C Rr => ?_)
  have loop : ∀ (m i : Nat) (x : Int32) (c la dg : Nat) (kf df lf : mS) (ns lk ld : Nat → Int32), i + m = n → x = nI i → tRun tx i = some (c, la, dg, kf, df, lf) → CRep (tS s kf df lf) ns lk ld → P 0 0 12 [(0, .ref y), (1, .ref p), (2, .int x)] [] [(y, ob 3 (tF y1 tl (nI c) (nI la))), (y1, aI G 60 cd), (p, ob 0 (cR q1 q2 ns)), (q1, aI G 15 lk), (q2, aI G 16 ld)] := by
    intro m
    induction m with
    | zero =>
      intro i x c la dg kf df lf ns lk ld hi hx hqo hC
      have hin : i = n := by omega
      refine st_iload_n C (dk DX4_readInto_0 8 rfl) rfl ?_
      refine st_aload_n C (dk DX4_readInto_0 9 rfl) rfl ?_
      refine st_get C fl_RX4_15 (dk DX4_readInto_0 10 rfl) 0 rfl rfl ?_
      refine st_icmp_ge C (tgt := 41) (dk DX4_readInto_0 11 rfl) (by decide) (fun c_17 => ?_) (fun c_17 => ?_)
      · refine st_aload_n C (dk DX4_readInto_0 23 rfl) rfl ?_
        refine st_get C fl_RX4_15 (dk DX4_readInto_0 24 rfl) 0 rfl rfl ?_
        exact Rr 0 0 _ _ _ _ _ _ (Nat.zero_le _) (Nat.zero_le _) (dk DX4_readInto_0 25 rfl) (.inr (.inl ⟨_, rfl, rfl, rfl, rfl⟩)) rfl ⟨rfl, ⟨by rw [htl, fe_n (hin ▸ hqo)], c, la, dg, kf, df, lf, ns, lk, ld, by rw [fe_n (hin ▸ hqo), ← hin]; exact hqo, hC, rfl⟩⟩
      · exact absurd ((ge_nI (a := n) (i := i) (by omega) (by omega) htl hx).mpr (by omega)) c_17
    | succ m ih =>
      intro i x c la dg kf df lf ns lk ld hi hx hqo hC
      refine st_iload_n C (dk DX4_readInto_0 8 rfl) rfl ?_
      refine st_aload_n C (dk DX4_readInto_0 9 rfl) rfl ?_
      refine st_get C fl_RX4_15 (dk DX4_readInto_0 10 rfl) 0 rfl rfl ?_
      refine st_icmp_ge C (tgt := 41) (dk DX4_readInto_0 11 rfl) (by decide) (fun c_17 => ?_) (fun c_17 => ?_)
      · exact absurd ((ge_nI (a := n) (i := i) (by omega) (by omega) htl hx).mp c_17) (by omega)
      · refine st_aload_n C (dk DX4_readInto_0 12 rfl) rfl ?_
        refine st_aload_n C (dk DX4_readInto_0 13 rfl) rfl ?_
        refine st_iload_n C (dk DX4_readInto_0 14 rfl) rfl ?_
        refine st_cV C (k_X4_codeAt l G) mf_X4_codeAt mi_X4_codeAt ml_RX4_25 (dk DX4_readInto_0 15 rfl) [0, 1] rfl rfl rfl rfl (Nat.le_of_ble_eq_true rfl) rfl rfl ⟨Nat.le_of_ble_eq_true rfl, Nat.le_of_ble_eq_true rfl⟩ ⟨Nat.zero_le _, Nat.zero_le _⟩ (fun r9 w9 hq9 => ?_)
        obtain ⟨rfl, rfl⟩ := hq9
        show P _ _ _ _ _ [_, _, _, _, _]
        rw [show rAt cd x = nI (tx i) by unfold rAt; rw [hx, if_neg (nI_pos (by omega)), if_neg (fun e => by have := (ge_nI (a := 60) (i := i) (by decide) (by omega) rfl rfl).mp e; omega), nI_clamp (by omega)]; exact (ht i (by omega)).1]
        refine st_aload_n C (dk DX4_readInto_0 16 rfl) rfl ?_
        refine st_cV C (k_X4_take l G) mf_X4_take mi_X4_take ml_RX4_29 (dk DX4_readInto_0 17 rfl) [0, 2, 3, 4] rfl rfl rfl rfl (Nat.le_of_ble_eq_true rfl) rfl rfl ⟨Nat.le_of_ble_eq_true rfl, Nat.le_of_ble_eq_true rfl⟩ ⟨Nat.zero_le _, Nat.zero_le _⟩ (fun r9 w9 hq9 => ?_)
        obtain ⟨rfl, rfl⟩ := hq9
        show P _ _ _ _ _ [_, _, _, _, _]
        rcases rd_step (tRun_ok hqo) hC (ch := tx i) (by have := (ht i (by omega)).2; omega) y1 tl q1 q2 with ⟨e1, e2, e3, e4, e5, e6⟩ | ⟨c9, la9, dg9, kf9, df9, lf9, ns9, e1, e2, e3, e4, e5⟩
        · rw [e2, e3, e4, e5, e6]
          refine st_if_ne C (tgt := 35) (dk DX4_readInto_0 18 rfl) (by decide) (fun c_30 => ?_) (fun c_30 => ?_)
          · exact absurd rfl c_30
          · refine st_iload_n C (dk DX4_readInto_0 19 rfl) rfl ?_
            exact Rr 0 0 _ _ _ _ _ _ (Nat.zero_le _) (Nat.zero_le _) (dk DX4_readInto_0 20 rfl) (.inr (.inl ⟨_, rfl, rfl, rfl, rfl⟩)) rfl ⟨rfl, ⟨by rw [hx, fe_no hqo e1 (by omega)], c, la, dg, kf, df, lf, ns, lk, ld, by rw [fe_no hqo e1 (by omega)]; exact hqo, hC, rfl⟩⟩
        · rw [e2, e3, e4]
          refine st_if_ne C (tgt := 35) (dk DX4_readInto_0 18 rfl) (by decide) (fun c_30 => ?_) (fun c_30 => ?_)
          · refine st_iinc C (dk DX4_readInto_0 21 rfl) rfl (iadd_ofInt _ (1) (1) (by decide)) (by decide) rfl ?_
            refine st_goto C (tgt := 12) (dk DX4_readInto_0 22 rfl) (by decide) ?_
            exact ih (i + 1) _ _ _ _ _ _ _ _ _ _ (by omega) (up_nI hx) (by rw [tRun_s hqo]; exact e1) e5
          · exact absurd c_30 (by decide)
  refine st_aload_n C (dk DX4_readInto_0 0 rfl) rfl ?_
  refine st_iconst C (v := 0) (dk DX4_readInto_0 1 rfl) (by decide) ?_
  refine st_put C fl_RX4_19 fc_3 fw_3_2 (dk DX4_readInto_0 2 rfl) 0 rfl rfl rfl (Nat.le_of_ble_eq_true rfl) ?_
  refine st_aload_n C (dk DX4_readInto_0 3 rfl) rfl ?_
  refine st_iconst C (v := 0) (dk DX4_readInto_0 4 rfl) (by decide) ?_
  refine st_put C fl_RX4_22 fc_3 fw_3_3 (dk DX4_readInto_0 5 rfl) 0 rfl rfl rfl (Nat.le_of_ble_eq_true rfl) ?_
  refine st_iconst C (v := 0) (dk DX4_readInto_0 6 rfl) (by decide) ?_
  refine st_istore_n C (dk DX4_readInto_0 7 rfl) (by decide) rfl ?_
  exact loop n 0 _ 0 0 0 z0 z0 z0 _ _ _ (by omega) rfl rfl hC
set_option maxHeartbeats 4000000 in
set_option maxRecDepth 100000 in
theorem k_X5_readText (l : Launch) (G : wG) {K p q1 q2 o o1 o2 v t y y1 : Nat} {s : mS} {ns lk ld : Nat → Int32} {os olk old : Nat → Int32} {tl ce la : Int32} {cd : Nat → Int32} {n : Nat} {tx : Nat → Nat} (htl : tl = nI n) (hn : n ≤ 60) (ht : hdT cd n tx) (hC : CRep s ns lk ld) : Con0 l G yX5_readText cX5_readText 1 (some .int) 5 [.ref K] [(K, ob 4 (kF p o v t y)), (p, ob 0 (cR q1 q2 ns)), (q1, aI G 15 lk), (q2, aI G 16 ld), (o, ob 0 (cR o1 o2 os)), (o1, aI G 15 olk), (o2, aI G 16 old), (y, ob 3 (tF y1 tl ce la)), (y1, aI G 60 cd)] (fun r w => r = some (.int (nI (fe tx n))) ∧ ∃ (c9 la9 dg9 : Nat) (kf9 df9 lf9 : mS) (ns9 lk9 ld9 : Nat → Int32), tRun tx (fe tx n) = some (c9, la9, dg9, kf9, df9, lf9) ∧ CRep (tS s kf9 df9 lf9) ns9 lk9 ld9 ∧ w = [(K, ob 4 (kF p o v t y)), (p, ob 0 (cR q1 q2 ns)), (q1, aI G 15 lk), (q2, aI G 16 ld), (o, ob 0 (cR o1 o2 ns9)), (o1, aI G 15 lk9), (o2, aI G 16 ld9), (y, ob 3 (tF y1 tl (nI c9) (nI la9))), (y1, aI G 60 cd)]) := by
  refine Con.mk (by decide +kernel) (Nat.le_of_ble_eq_true rfl) (fun P C Rr => ?_)
  refine st_aload_n C (dk DX5_readText_0 0 rfl) rfl ?_
  refine st_get C fl_RX5_16 (dk DX5_readText_0 1 rfl) 0 rfl rfl ?_
  refine st_aload_n C (dk DX5_readText_0 2 rfl) rfl ?_
  refine st_get C fl_RX5_10 (dk DX5_readText_0 3 rfl) 0 rfl rfl ?_
  refine st_cV C (k_X1_copyFrom l G) mf_X1_copyFrom mi_X1_copyFrom ml_RX5_158 (dk DX5_readText_0 4 rfl) [4, 5, 6, 1, 2, 3] rfl rfl rfl rfl (Nat.le_of_ble_eq_true rfl) rfl rfl ⟨Nat.le_of_ble_eq_true rfl, Nat.le_of_ble_eq_true rfl⟩ ⟨Nat.zero_le _, Nat.zero_le _⟩ (fun r9 w9 hq9 => ?_)
  obtain ⟨rfl, lk8, ld8, hlk8, hld8, rfl⟩ := hq9
  show P _ _ _ _ _ [_, _, _, _, _, _, _, _, _]
  refine st_aload_n C (dk DX5_readText_0 5 rfl) rfl ?_
  refine st_get C fl_RX5_16 (dk DX5_readText_0 6 rfl) 0 rfl rfl ?_
  refine st_cV C (k_X1_clear l G) mf_X1_clear mi_X1_clear ml_RX5_217 (dk DX5_readText_0 7 rfl) [4, 5, 6] rfl rfl rfl rfl (Nat.le_of_ble_eq_true rfl) rfl rfl ⟨Nat.le_of_ble_eq_true rfl, Nat.le_of_ble_eq_true rfl⟩ ⟨Nat.zero_le _, Nat.zero_le _⟩ (fun r9 w9 hq9 => ?_)
  obtain ⟨rfl, lk15, ld15, hlk15, hld15, rfl⟩ := hq9
  show P _ _ _ _ _ [_, _, _, _, _, _, _, _, _]
  refine st_aload_n C (dk DX5_readText_0 8 rfl) rfl ?_
  refine st_get C fl_RX5_36 (dk DX5_readText_0 9 rfl) 0 rfl rfl ?_
  refine st_aload_n C (dk DX5_readText_0 10 rfl) rfl ?_
  refine st_get C fl_RX5_16 (dk DX5_readText_0 11 rfl) 0 rfl rfl ?_
  refine st_cV C (k_X4_readInto l G (ns := mk7 0 0 (rOf 0 17 17) (ns 3) (ns 4) (ns 5) (ns 6)) htl hn ht (hC.clear hlk15 hld15)) mf_X4_readInto mi_X4_readInto ml_RX5_220 (dk DX5_readText_0 12 rfl) [7, 8, 4, 5, 6] rfl rfl rfl rfl (Nat.le_of_ble_eq_true rfl) rfl rfl ⟨Nat.le_of_ble_eq_true rfl, Nat.le_of_ble_eq_true rfl⟩ ⟨Nat.zero_le _, Nat.zero_le _⟩ (fun r9 w9 hq9 => ?_)
  obtain ⟨rfl, c26, la26, dg26, kf26, df26, lf26, ns26, lk26, ld26, hq26, hC26, rfl⟩ := hq9
  show P _ _ _ _ _ [_, _, _, _, _, _, _, _, _]
  exact Rr 0 0 _ _ _ _ _ _ (Nat.zero_le _) (Nat.zero_le _) (dk DX5_readText_0 13 rfl) (.inr (.inl ⟨_, rfl, rfl, rfl, rfl⟩)) rfl ⟨rfl, ⟨rfl, c26, la26, dg26, kf26, df26, lf26, ns26, lk26, ld26, hq26, hC26, rfl⟩⟩
