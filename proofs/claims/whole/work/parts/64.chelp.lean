/-! the landed class: its private methods -/
abbrev kF (p o v t y : Nat) : List Value := [.ref p, .ref o, .ref v, .ref t, .ref y]
set_option maxHeartbeats 4000000 in
set_option maxRecDepth 100000 in
theorem k_X4_readInto (l : Launch) (G : wG) {y y1 p q1 q2 : Nat} {s : mS} {ns lk ld : Nat → Int32} {tl ce la : Int32} {cd : Nat → Int32} {n : Nat} {tx : Nat → Nat} (htl : tl = nI n) (hn : n ≤ 60) (ht : hdT cd n tx) (hC : CRep (tS s z0 z0 z0) ns lk ld) : Con0 l G yX4_readInto cX4_readInto 3 (some .int) 4 [.ref y, .ref p] [(y, ob 3 (tF y1 tl ce la)), (y1, aI G 60 cd), (p, ob 0 (cR q1 q2 ns)), (q1, aI G 15 lk), (q2, aI G 16 ld)] (fun r w => r = some (.int (nI (fe tx n))) ∧ ∃ (c9 la9 dg9 : Nat) (kf9 df9 lf9 : mS) (ns9 lk9 ld9 : Nat → Int32), tRun tx (fe tx n) = some (c9, la9, dg9, kf9, df9, lf9) ∧ CRep (tS s kf9 df9 lf9) ns9 lk9 ld9 ∧ w = [(y, ob 3 (tF y1 tl (nI c9) (nI la9))), (y1, aI G 60 cd), (p, ob 0 (cR q1 q2 ns9)), (q1, aI G 15 lk9), (q2, aI G 16 ld9)]) := by
  refine Con.mk (by decide +kernel) (Nat.le_of_ble_eq_true rfl) (fun P C Rr => ?_)
  have loop : ∀ (m i : Nat) (x : Int32) (c la dg : Nat) (kf df lf : mS) (ns lk ld : Nat → Int32), i + m = n → x = nI i → tRun tx i = some (c, la, dg, kf, df, lf) → CRep (tS s kf df lf) ns lk ld → P 0 0 12 [(0, .ref y), (1, .ref p), (2, .int x)] [] [(y, ob 3 (tF y1 tl (nI c) (nI la))), (y1, aI G 60 cd), (p, ob 0 (cR q1 q2 ns)), (q1, aI G 15 lk), (q2, aI G 16 ld)] := by
    intro m
    induction m with
    | zero =>
      intro i x c la dg kf df lf ns lk ld hi hx hqo hC
      have hin : i = n := by omega
      refine st_iload_n C (dk DX4_readInto_0 8 rfl) rfl ?_
      refine st_aload_n C (dk DX4_readInto_0 9 rfl) rfl ?_
      refine st_get C fl_RX4_15 (dk DX4_readInto_0 10 rfl) 0 rfl rfl ?_
      refine st_icmp_ge C (tgt := 41) (dk DX4_readInto_0 11 rfl) (by decide) (fun c_17 => ?_) (fun c_17 => ?_)
      · refine st_aload_n C (dk DX4_readInto_0 23 rfl) rfl ?_
        refine st_get C fl_RX4_15 (dk DX4_readInto_0 24 rfl) 0 rfl rfl ?_
        exact Rr 0 0 _ _ _ _ _ _ (Nat.zero_le _) (Nat.zero_le _) (dk DX4_readInto_0 25 rfl) (.inr (.inl ⟨_, rfl, rfl, rfl, rfl⟩)) rfl ⟨rfl, ⟨by rw [htl, fe_n (hin ▸ hqo)], c, la, dg, kf, df, lf, ns, lk, ld, by rw [fe_n (hin ▸ hqo), ← hin]; exact hqo, hC, rfl⟩⟩
      · exact absurd ((ge_nI (a := n) (i := i) (by omega) (by omega) htl hx).mpr (by omega)) c_17
    | succ m ih =>
      intro i x c la dg kf df lf ns lk ld hi hx hqo hC
      refine st_iload_n C (dk DX4_readInto_0 8 rfl) rfl ?_
      refine st_aload_n C (dk DX4_readInto_0 9 rfl) rfl ?_
      refine st_get C fl_RX4_15 (dk DX4_readInto_0 10 rfl) 0 rfl rfl ?_
      refine st_icmp_ge C (tgt := 41) (dk DX4_readInto_0 11 rfl) (by decide) (fun c_17 => ?_) (fun c_17 => ?_)
      · exact absurd ((ge_nI (a := n) (i := i) (by omega) (by omega) htl hx).mp c_17) (by omega)
      · refine st_aload_n C (dk DX4_readInto_0 12 rfl) rfl ?_
        refine st_aload_n C (dk DX4_readInto_0 13 rfl) rfl ?_
        refine st_iload_n C (dk DX4_readInto_0 14 rfl) rfl ?_
        refine st_cV C (k_X4_codeAt l G) mf_X4_codeAt mi_X4_codeAt ml_RX4_25 (dk DX4_readInto_0 15 rfl) [0, 1] rfl rfl rfl rfl (Nat.le_of_ble_eq_true rfl) rfl rfl ⟨Nat.le_of_ble_eq_true rfl, Nat.le_of_ble_eq_true rfl⟩ ⟨Nat.zero_le _, Nat.zero_le _⟩ (fun r9 w9 hq9 => ?_)
        obtain ⟨rfl, rfl⟩ := hq9
        rw [show rAt cd x = nI (tx i) by unfold rAt; rw [hx, if_neg (nI_pos (by omega)), if_neg (fun e => by have := (ge_nI (a := 60) (i := i) (by decide) (by omega) rfl rfl).mp e; omega), nI_clamp (by omega)]; exact (ht i (by omega)).1]
        refine st_aload_n C (dk DX4_readInto_0 16 rfl) rfl ?_
        refine st_cV C (k_X4_take l G) mf_X4_take mi_X4_take ml_RX4_29 (dk DX4_readInto_0 17 rfl) [0, 2, 3, 4] rfl rfl rfl rfl (Nat.le_of_ble_eq_true rfl) rfl rfl ⟨Nat.le_of_ble_eq_true rfl, Nat.le_of_ble_eq_true rfl⟩ ⟨Nat.zero_le _, Nat.zero_le _⟩ (fun r9 w9 hq9 => ?_)
        obtain ⟨rfl, rfl⟩ := hq9
        rcases rd_step (tRun_ok hqo) hC (ch := tx i) (by have := (ht i (by omega)).2; omega) y1 tl q1 q2 with ⟨e1, e2, e3, e4, e5, e6⟩ | ⟨c9, la9, dg9, kf9, df9, lf9, ns9, e1, e2, e3, e4, e5⟩
        · rw [e2, e3, e4, e5, e6]
          refine st_if_ne C (tgt := 35) (dk DX4_readInto_0 18 rfl) (by decide) (fun c_30 => ?_) (fun c_30 => ?_)
          · exact absurd rfl c_30
          · refine st_iload_n C (dk DX4_readInto_0 19 rfl) rfl ?_
            exact Rr 0 0 _ _ _ _ _ _ (Nat.zero_le _) (Nat.zero_le _) (dk DX4_readInto_0 20 rfl) (.inr (.inl ⟨_, rfl, rfl, rfl, rfl⟩)) rfl ⟨rfl, ⟨by rw [hx, fe_no hqo e1 (by omega)], c, la, dg, kf, df, lf, ns, lk, ld, by rw [fe_no hqo e1 (by omega)]; exact hqo, hC, rfl⟩⟩
        · rw [e2, e3, e4]
          refine st_if_ne C (tgt := 35) (dk DX4_readInto_0 18 rfl) (by decide) (fun c_30 => ?_) (fun c_30 => ?_)
          · refine st_iinc C (dk DX4_readInto_0 21 rfl) rfl (iadd_ofInt _ (1) (1) (by decide)) (by decide) rfl ?_
            refine st_goto C (tgt := 12) (dk DX4_readInto_0 22 rfl) (by decide) ?_
            exact ih (i + 1) _ _ _ _ _ _ _ _ _ _ (by omega) (up_nI hx) (by rw [tRun_s hqo]; exact e1) e5
          · exact absurd c_30 (by decide)
  refine st_aload_n C (dk DX4_readInto_0 0 rfl) rfl ?_
  refine st_iconst C (v := 0) (dk DX4_readInto_0 1 rfl) (by decide) ?_
  refine st_put C fl_RX4_19 fc_3 fw_3_2 (dk DX4_readInto_0 2 rfl) 0 rfl rfl rfl (Nat.le_of_ble_eq_true rfl) ?_
  refine st_aload_n C (dk DX4_readInto_0 3 rfl) rfl ?_
  refine st_iconst C (v := 0) (dk DX4_readInto_0 4 rfl) (by decide) ?_
  refine st_put C fl_RX4_22 fc_3 fw_3_3 (dk DX4_readInto_0 5 rfl) 0 rfl rfl rfl (Nat.le_of_ble_eq_true rfl) ?_
  refine st_iconst C (v := 0) (dk DX4_readInto_0 6 rfl) (by decide) ?_
  refine st_istore_n C (dk DX4_readInto_0 7 rfl) (by decide) rfl ?_
  exact loop n 0 _ 0 0 0 z0 z0 z0 _ _ _ (by omega) rfl rfl hC
set_option maxHeartbeats 4000000 in
set_option maxRecDepth 100000 in
theorem k_X5_readText (l : Launch) (G : wG) {K p q1 q2 o o1 o2 v t t1 t2 t3 t4 y y1 : Nat} {s : mS} {ns lk ld : Nat → Int32} {os olk old : Nat → Int32} {tl ce la : Int32} {cd : Nat → Int32} {n : Nat} {tx : Nat → Nat} (htl : tl = nI n) (hn : n ≤ 60) (ht : hdT cd n tx) (hC : CRep s ns lk ld) : Con0 l G yX5_readText cX5_readText 1 (some .int) 5 [.ref K] [(K, ob 4 (kF p o v t y)), (p, ob 0 (cR q1 q2 ns)), (q1, aI G 15 lk), (q2, aI G 16 ld), (o, ob 0 (cR o1 o2 os)), (o1, aI G 15 olk), (o2, aI G 16 old), (y, ob 3 (tF y1 tl ce la)), (y1, aI G 60 cd)] (fun r w => r = some (.int (nI (fe tx n))) ∧ ∃ (c9 la9 dg9 : Nat) (kf9 df9 lf9 : mS) (ns9 lk9 ld9 : Nat → Int32), tRun tx (fe tx n) = some (c9, la9, dg9, kf9, df9, lf9) ∧ CRep (tS s kf9 df9 lf9) ns9 lk9 ld9 ∧ w = [(K, ob 4 (kF p o v t y)), (p, ob 0 (cR q1 q2 ns)), (q1, aI G 15 lk), (q2, aI G 16 ld), (o, ob 0 (cR o1 o2 ns9)), (o1, aI G 15 lk9), (o2, aI G 16 ld9), (y, ob 3 (tF y1 tl (nI c9) (nI la9))), (y1, aI G 60 cd)]) := by
  refine Con.mk (by decide +kernel) (Nat.le_of_ble_eq_true rfl) (fun P C Rr => ?_)
  refine st_aload_n C (dk DX5_readText_0 0 rfl) rfl ?_
  refine st_get C fl_RX5_16 (dk DX5_readText_0 1 rfl) 0 rfl rfl ?_
  refine st_aload_n C (dk DX5_readText_0 2 rfl) rfl ?_
  refine st_get C fl_RX5_10 (dk DX5_readText_0 3 rfl) 0 rfl rfl ?_
  refine st_cV C (k_X1_copyFrom l G) mf_X1_copyFrom mi_X1_copyFrom ml_RX5_158 (dk DX5_readText_0 4 rfl) [4, 5, 6, 1, 2, 3] rfl rfl rfl rfl (Nat.le_of_ble_eq_true rfl) rfl rfl ⟨Nat.le_of_ble_eq_true rfl, Nat.le_of_ble_eq_true rfl⟩ ⟨Nat.zero_le _, Nat.zero_le _⟩ (fun r9 w9 hq9 => ?_)
  obtain ⟨rfl, lk8, ld8, hlk8, hld8, rfl⟩ := hq9
  refine st_aload_n C (dk DX5_readText_0 5 rfl) rfl ?_
  refine st_get C fl_RX5_16 (dk DX5_readText_0 6 rfl) 0 rfl rfl ?_
  refine st_cV C (k_X1_clear l G) mf_X1_clear mi_X1_clear ml_RX5_217 (dk DX5_readText_0 7 rfl) [4, 5, 6] rfl rfl rfl rfl (Nat.le_of_ble_eq_true rfl) rfl rfl ⟨Nat.le_of_ble_eq_true rfl, Nat.le_of_ble_eq_true rfl⟩ ⟨Nat.zero_le _, Nat.zero_le _⟩ (fun r9 w9 hq9 => ?_)
  obtain ⟨rfl, lk15, ld15, hlk15, hld15, rfl⟩ := hq9
  refine st_aload_n C (dk DX5_readText_0 8 rfl) rfl ?_
  refine st_get C fl_RX5_36 (dk DX5_readText_0 9 rfl) 0 rfl rfl ?_
  refine st_aload_n C (dk DX5_readText_0 10 rfl) rfl ?_
  refine st_get C fl_RX5_16 (dk DX5_readText_0 11 rfl) 0 rfl rfl ?_
  refine st_cV C (k_X4_readInto l G (ns := mk7 0 0 (rOf 0 17 17) (ns 3) (ns 4) (ns 5) (ns 6)) htl hn ht (hC.clear hlk15 hld15)) mf_X4_readInto mi_X4_readInto ml_RX5_220 (dk DX5_readText_0 12 rfl) [7, 8, 4, 5, 6] rfl rfl rfl rfl (Nat.le_of_ble_eq_true rfl) rfl rfl ⟨Nat.le_of_ble_eq_true rfl, Nat.le_of_ble_eq_true rfl⟩ ⟨Nat.zero_le _, Nat.zero_le _⟩ (fun r9 w9 hq9 => ?_)
  obtain ⟨rfl, c26, la26, dg26, kf26, df26, lf26, ns26, lk26, ld26, hq26, hC26, rfl⟩ := hq9
  exact Rr 0 0 _ _ _ _ _ _ (Nat.zero_le _) (Nat.zero_le _) (dk DX5_readText_0 13 rfl) (.inr (.inl ⟨_, rfl, rfl, rfl, rfl⟩)) rfl ⟨rfl, ⟨rfl, c26, la26, dg26, kf26, df26, lf26, ns26, lk26, ld26, hq26, hC26, rfl⟩⟩
set_option maxHeartbeats 4000000 in
set_option maxRecDepth 100000 in
theorem k_X5_reachedWithDoor (l : Launch) (G : wG) {K p q1 q2 o o1 o2 v t t1 t2 t3 t4 y y1 : Nat} {s : mS} {ns lk ld : Nat → Int32} {os olk old : Nat → Int32} {zz rc : Int32} {en : Nat → Int32} {sn : Nat → Int64} {nd ln : Nat → Int32} {x z : Int32} {j i : Nat} (hC : CRep s ns lk ld) (hx : x = nI j) (hj : j ≤ 14) (hz : z = nI i) (hi : i ≤ 5) : Con0 l G yX5_reachedWithDoor cX5_reachedWithDoor 3 (some .int) 5 [.ref K, .int x, .int z] [(K, ob 4 (kF p o v t y)), (p, ob 0 (cR q1 q2 ns)), (q1, aI G 15 lk), (q2, aI G 16 ld), (o, ob 0 (cR o1 o2 os)), (o1, aI G 15 olk), (o2, aI G 16 old), (t, ob 2 (sF t1 t2 t3 t4 zz rc)), (t1, aI G 4624 en), (t2, aJ G 256 sn), (t3, aI G 16 nd), (t4, aI G 16 ln)] (fun r w => r = some (.int (nI (cnt (fS (updS s (22 + j) i)) 16))) ∧ ∃ (os9 olk9 old9 : Nat → Int32) (zz9 rc9 : Int32) (en9 : Nat → Int32) (sn9 : Nat → Int64) (nd9 ln9 : Nat → Int32), w = [(K, ob 4 (kF p o v t y)), (p, ob 0 (cR q1 q2 ns)), (q1, aI G 15 lk), (q2, aI G 16 ld), (o, ob 0 (cR o1 o2 os9)), (o1, aI G 15 olk9), (o2, aI G 16 old9), (t, ob 2 (sF t1 t2 t3 t4 zz9 rc9)), (t1, aI G 4624 en9), (t2, aJ G 256 sn9), (t3, aI G 16 nd9), (t4, aI G 16 ln9)]) := by
  refine Con.mk (by decide +kernel) (Nat.le_of_ble_eq_true rfl) (fun P C Rr => ?_)
  subst hx
  subst hz
  refine st_aload_n C (dk DX5_reachedWithDoor_0 0 rfl) rfl ?_
  refine st_get C fl_RX5_16 (dk DX5_reachedWithDoor_0 1 rfl) 0 rfl rfl ?_
  refine st_aload_n C (dk DX5_reachedWithDoor_0 2 rfl) rfl ?_
  refine st_get C fl_RX5_10 (dk DX5_reachedWithDoor_0 3 rfl) 0 rfl rfl ?_
  refine st_cV C (k_X1_copyFrom l G) mf_X1_copyFrom mi_X1_copyFrom ml_RX5_158 (dk DX5_reachedWithDoor_0 4 rfl) [4, 5, 6, 1, 2, 3] rfl rfl rfl rfl (Nat.le_of_ble_eq_true rfl) rfl rfl ⟨Nat.le_of_ble_eq_true rfl, Nat.le_of_ble_eq_true rfl⟩ ⟨Nat.zero_le _, Nat.zero_le _⟩ (fun r9 w9 hq9 => ?_)
  obtain ⟨rfl, lk8, ld8, hlk8, hld8, rfl⟩ := hq9
  refine st_aload_n C (dk DX5_reachedWithDoor_0 5 rfl) rfl ?_
  refine st_get C fl_RX5_16 (dk DX5_reachedWithDoor_0 6 rfl) 0 rfl rfl ?_
  refine st_iload_n C (dk DX5_reachedWithDoor_0 7 rfl) rfl ?_
  refine st_iload_n C (dk DX5_reachedWithDoor_0 8 rfl) rfl ?_
  refine st_cV C (k_X1_setLock l G) mf_X1_setLock mi_X1_setLock ml_RX5_67 (dk DX5_reachedWithDoor_0 9 rfl) [4, 5] rfl rfl rfl rfl (Nat.le_of_ble_eq_true rfl) rfl rfl ⟨Nat.le_of_ble_eq_true rfl, Nat.le_of_ble_eq_true rfl⟩ ⟨Nat.zero_le _, Nat.zero_le _⟩ (fun r9 w9 hq9 => ?_)
  obtain ⟨rfl, rfl⟩ := hq9
  have h9 := (hC.copy hlk8 hld8).setLock hj hi
  obtain ⟨ec, g1, g2, g3⟩ := h9.srch
  refine st_aload_n C (dk DX5_reachedWithDoor_0 10 rfl) rfl ?_
  refine st_get C fl_RX5_29 (dk DX5_reachedWithDoor_0 11 rfl) 0 rfl rfl ?_
  refine st_aload_n C (dk DX5_reachedWithDoor_0 12 rfl) rfl ?_
  refine st_get C fl_RX5_16 (dk DX5_reachedWithDoor_0 13 rfl) 0 rfl rfl ?_
  refine st_cV C (k_X3_run l G g1 g2 g3) mf_X3_run mi_X3_run ml_RX5_131 (dk DX5_reachedWithDoor_0 14 rfl) [7, 8, 9, 10, 11, 4, 5, 6] rfl rfl rfl rfl (Nat.le_of_ble_eq_true rfl) rfl rfl ⟨Nat.le_of_ble_eq_true rfl, Nat.le_of_ble_eq_true rfl⟩ ⟨Nat.zero_le _, Nat.zero_le _⟩ (fun r9 w9 hq9 => ?_)
  obtain ⟨rfl, sz28, rc28, en28, sn28, nd28, ln28, hres28, rfl⟩ := hq9
  refine st_aload_n C (dk DX5_reachedWithDoor_0 15 rfl) rfl ?_
  refine st_get C fl_RX5_29 (dk DX5_reachedWithDoor_0 16 rfl) 0 rfl rfl ?_
  refine st_get C fl_RX5_193 (dk DX5_reachedWithDoor_0 17 rfl) 7 rfl rfl ?_
  exact Rr 0 0 _ _ _ _ _ _ (Nat.zero_le _) (Nat.zero_le _) (dk DX5_reachedWithDoor_0 18 rfl) (.inr (.inl ⟨_, rfl, rfl, rfl, rfl⟩)) rfl ⟨rfl, ⟨congrArg (fun z => some (Value.int z)) hres28.1, ns, _, _, _, _, _, _, _, _, rfl⟩⟩
set_option maxHeartbeats 4000000 in
set_option maxRecDepth 100000 in
theorem k_X5_reachedWithoutKey (l : Launch) (G : wG) {K p q1 q2 o o1 o2 v t t1 t2 t3 t4 y y1 : Nat} {s : mS} {ns lk ld : Nat → Int32} {os olk old : Nat → Int32} {zz rc : Int32} {en : Nat → Int32} {sn : Nat → Int64} {nd ln : Nat → Int32} {x : Int32} {j : Nat} (hC : CRep s ns lk ld) (hx : x = nI j) (hj : j ≤ 15) : Con0 l G yX5_reachedWithoutKey cX5_reachedWithoutKey 2 (some .int) 5 [.ref K, .int x] [(K, ob 4 (kF p o v t y)), (p, ob 0 (cR q1 q2 ns)), (q1, aI G 15 lk), (q2, aI G 16 ld), (o, ob 0 (cR o1 o2 os)), (o1, aI G 15 olk), (o2, aI G 16 old), (t, ob 2 (sF t1 t2 t3 t4 zz rc)), (t1, aI G 4624 en), (t2, aJ G 256 sn), (t3, aI G 16 nd), (t4, aI G 16 ln)] (fun r w => r = some (.int (nI (cnt (fS (updS s (6 + j) 0)) 16))) ∧ ∃ (os9 olk9 old9 : Nat → Int32) (zz9 rc9 : Int32) (en9 : Nat → Int32) (sn9 : Nat → Int64) (nd9 ln9 : Nat → Int32), w = [(K, ob 4 (kF p o v t y)), (p, ob 0 (cR q1 q2 ns)), (q1, aI G 15 lk), (q2, aI G 16 ld), (o, ob 0 (cR o1 o2 os9)), (o1, aI G 15 olk9), (o2, aI G 16 old9), (t, ob 2 (sF t1 t2 t3 t4 zz9 rc9)), (t1, aI G 4624 en9), (t2, aJ G 256 sn9), (t3, aI G 16 nd9), (t4, aI G 16 ln9)]) := by
  refine Con.mk (by decide +kernel) (Nat.le_of_ble_eq_true rfl) (fun P C Rr => ?_)
  subst hx
  refine st_aload_n C (dk DX5_reachedWithoutKey_0 0 rfl) rfl ?_
  refine st_get C fl_RX5_16 (dk DX5_reachedWithoutKey_0 1 rfl) 0 rfl rfl ?_
  refine st_aload_n C (dk DX5_reachedWithoutKey_0 2 rfl) rfl ?_
  refine st_get C fl_RX5_10 (dk DX5_reachedWithoutKey_0 3 rfl) 0 rfl rfl ?_
  refine st_cV C (k_X1_copyFrom l G) mf_X1_copyFrom mi_X1_copyFrom ml_RX5_158 (dk DX5_reachedWithoutKey_0 4 rfl) [4, 5, 6, 1, 2, 3] rfl rfl rfl rfl (Nat.le_of_ble_eq_true rfl) rfl rfl ⟨Nat.le_of_ble_eq_true rfl, Nat.le_of_ble_eq_true rfl⟩ ⟨Nat.zero_le _, Nat.zero_le _⟩ (fun r9 w9 hq9 => ?_)
  obtain ⟨rfl, lk8, ld8, hlk8, hld8, rfl⟩ := hq9
  refine st_aload_n C (dk DX5_reachedWithoutKey_0 5 rfl) rfl ?_
  refine st_get C fl_RX5_16 (dk DX5_reachedWithoutKey_0 6 rfl) 0 rfl rfl ?_
  refine st_iload_n C (dk DX5_reachedWithoutKey_0 7 rfl) rfl ?_
  refine st_iconst C (v := 0) (dk DX5_reachedWithoutKey_0 8 rfl) (by decide) ?_
  refine st_cV C (k_X1_putKey l G) mf_X1_putKey mi_X1_putKey ml_RX5_95 (dk DX5_reachedWithoutKey_0 9 rfl) [4] rfl rfl rfl rfl (Nat.le_of_ble_eq_true rfl) rfl rfl ⟨Nat.le_of_ble_eq_true rfl, Nat.le_of_ble_eq_true rfl⟩ ⟨Nat.zero_le _, Nat.zero_le _⟩ (fun r9 w9 hq9 => ?_)
  obtain ⟨rfl, rfl⟩ := hq9
  obtain ⟨ns9, e9, h9⟩ := (hC.copy hlk8 hld8).put (c := j) (v := 0) (by omega) (by omega) (Or.inl rfl) o1 o2
  rw [show rPut o1 o2 (ns 0) (ns 1) (ns 2) (ns 3) (ns 4) (ns 5) (ns 6) (nI j) 0 = cR o1 o2 ns9 from e9]
  obtain ⟨ec, g1, g2, g3⟩ := h9.srch
  refine st_aload_n C (dk DX5_reachedWithoutKey_0 10 rfl) rfl ?_
  refine st_get C fl_RX5_29 (dk DX5_reachedWithoutKey_0 11 rfl) 0 rfl rfl ?_
  refine st_aload_n C (dk DX5_reachedWithoutKey_0 12 rfl) rfl ?_
  refine st_get C fl_RX5_16 (dk DX5_reachedWithoutKey_0 13 rfl) 0 rfl rfl ?_
  refine st_cV C (k_X3_run l G g1 g2 g3) mf_X3_run mi_X3_run ml_RX5_131 (dk DX5_reachedWithoutKey_0 14 rfl) [7, 8, 9, 10, 11, 4, 5, 6] rfl rfl rfl rfl (Nat.le_of_ble_eq_true rfl) rfl rfl ⟨Nat.le_of_ble_eq_true rfl, Nat.le_of_ble_eq_true rfl⟩ ⟨Nat.zero_le _, Nat.zero_le _⟩ (fun r9 w9 hq9 => ?_)
  obtain ⟨rfl, sz28, rc28, en28, sn28, nd28, ln28, hres28, rfl⟩ := hq9
  refine st_aload_n C (dk DX5_reachedWithoutKey_0 15 rfl) rfl ?_
  refine st_get C fl_RX5_29 (dk DX5_reachedWithoutKey_0 16 rfl) 0 rfl rfl ?_
  refine st_get C fl_RX5_193 (dk DX5_reachedWithoutKey_0 17 rfl) 7 rfl rfl ?_
  exact Rr 0 0 _ _ _ _ _ _ (Nat.zero_le _) (Nat.zero_le _) (dk DX5_reachedWithoutKey_0 18 rfl) (.inr (.inl ⟨_, rfl, rfl, rfl, rfl⟩)) rfl ⟨rfl, ⟨congrArg (fun z => some (Value.int z)) hres28.1, ns9, _, _, _, _, _, _, _, _, rfl⟩⟩
set_option maxHeartbeats 4000000 in
set_option maxRecDepth 100000 in
theorem k_X5_numberOfCell (l : Launch) (G : wG) {K p q1 q2 o o1 o2 v t t1 t2 t3 t4 y y1 : Nat} {s : mS} {ns lk ld : Nat → Int32} {zz rc : Int32} {en : Nat → Int32} {sn : Nat → Int64} {nd ln : Nat → Int32} {x z : Int32} {c w9 : Nat} (hC : CRep s ns lk ld) (hx : x = nI c) (hc : c < 16) (hz : z = nI w9) (hw : w9 ≤ 6) (hS : w9 = 6 → SRx s rc en nd ln) : Con0 l G yX5_numberOfCell cX5_numberOfCell 3 (some .int) 3 [.ref K, .int x, .int z] [(K, ob 4 (kF p o v t y)), (p, ob 0 (cR q1 q2 ns)), (q1, aI G 15 lk), (q2, aI G 16 ld), (t, ob 2 (sF t1 t2 t3 t4 zz rc)), (t1, aI G 4624 en), (t2, aJ G 256 sn), (t3, aI G 16 nd), (t4, aI G 16 ln)] (fun r w => r = some (.int (ofI s c w9)) ∧ w = [(K, ob 4 (kF p o v t y)), (p, ob 0 (cR q1 q2 ns)), (q1, aI G 15 lk), (q2, aI G 16 ld), (t, ob 2 (sF t1 t2 t3 t4 zz rc)), (t1, aI G 4624 en), (t2, aJ G 256 sn), (t3, aI G 16 nd), (t4, aI G 16 ln)]) := by
  refine Con.mk (by decide +kernel) (Nat.le_of_ble_eq_true rfl) (fun P C Rr => ?_)
  subst hx
  subst hz
  refine st_iload_n C (dk DX5_numberOfCell_0 0 rfl) rfl ?_
  by_cases t_1_0 : nI w9 = 0
  · refine st_tswIn C (off := 39) (tgt := 40) (dk DX5_numberOfCell_0 1 rfl) (by rw [t_1_0]; decide) (by rw [t_1_0]; decide) (by rw [t_1_0]; rfl) (by decide) ?_
    refine st_aload_n C (dk DX5_numberOfCell_0 2 rfl) rfl ?_
    refine st_get C fl_RX5_10 (dk DX5_numberOfCell_0 3 rfl) 0 rfl rfl ?_
    refine st_aload_n C (dk DX5_numberOfCell_0 4 rfl) rfl ?_
    refine st_get C fl_RX5_10 (dk DX5_numberOfCell_0 5 rfl) 0 rfl rfl ?_
    refine st_get C fl_RX5_78 (dk DX5_numberOfCell_0 6 rfl) 1 rfl rfl ?_
    refine st_iload_n C (dk DX5_numberOfCell_0 7 rfl) rfl ?_
    refine st_cV C (k_X1_bowIn l G) mf_X1_bowIn mi_X1_bowIn ml_RX5_82 (dk DX5_numberOfCell_0 8 rfl) [1] rfl rfl rfl rfl (Nat.le_of_ble_eq_true rfl) rfl rfl ⟨Nat.le_of_ble_eq_true rfl, Nat.le_of_ble_eq_true rfl⟩ ⟨Nat.zero_le _, Nat.zero_le _⟩ (fun r9 w9 hq9 => ?_)
    obtain ⟨rfl, rfl⟩ := hq9
    refine Rr 0 0 _ _ _ _ _ _ (Nat.zero_le _) (Nat.zero_le _) (dk DX5_numberOfCell_0 9 rfl) (.inr (.inl ⟨_, rfl, rfl, rfl, rfl⟩)) rfl ?_
    obtain rfl : w9 = 0 := (nI_eq (by omega) (by omega)).mp (show nI w9 = nI 0 from t_1_0)
    exact ⟨rfl, by rw [hC.bowc hc, ofI0], rfl⟩
  by_cases t_1_1 : nI w9 = 1
  · refine st_tswIn C (off := 55) (tgt := 56) (dk DX5_numberOfCell_0 1 rfl) (by rw [t_1_1]; decide) (by rw [t_1_1]; decide) (by rw [t_1_1]; rfl) (by decide) ?_
    refine st_aload_n C (dk DX5_numberOfCell_0 10 rfl) rfl ?_
    refine st_get C fl_RX5_10 (dk DX5_numberOfCell_0 11 rfl) 0 rfl rfl ?_
    refine st_iload_n C (dk DX5_numberOfCell_0 12 rfl) rfl ?_
    refine st_cV C (k_X1_lockBehind l G) mf_X1_lockBehind mi_X1_lockBehind ml_RX5_63 (dk DX5_numberOfCell_0 13 rfl) [1, 2] rfl rfl rfl rfl (Nat.le_of_ble_eq_true rfl) rfl rfl ⟨Nat.le_of_ble_eq_true rfl, Nat.le_of_ble_eq_true rfl⟩ ⟨Nat.zero_le _, Nat.zero_le _⟩ (fun r9 w9 hq9 => ?_)
    obtain ⟨rfl, rfl⟩ := hq9
    refine Rr 0 0 _ _ _ _ _ _ (Nat.zero_le _) (Nat.zero_le _) (dk DX5_numberOfCell_0 14 rfl) (.inr (.inl ⟨_, rfl, rfl, rfl, rfl⟩)) rfl ?_
    obtain rfl : w9 = 1 := (nI_eq (by omega) (by omega)).mp (show nI w9 = nI 1 from t_1_1)
    exact ⟨rfl, by rw [hC.lock hc, ofI1], rfl⟩
  by_cases t_1_2 : nI w9 = 2
  · refine st_tswIn C (off := 64) (tgt := 65) (dk DX5_numberOfCell_0 1 rfl) (by rw [t_1_2]; decide) (by rw [t_1_2]; decide) (by rw [t_1_2]; rfl) (by decide) ?_
    refine st_aload_n C (dk DX5_numberOfCell_0 15 rfl) rfl ?_
    refine st_get C fl_RX5_10 (dk DX5_numberOfCell_0 16 rfl) 0 rfl rfl ?_
    refine st_iload_n C (dk DX5_numberOfCell_0 17 rfl) rfl ?_
    refine st_cV C (k_X1_ladderIn l G) mf_X1_ladderIn mi_X1_ladderIn ml_RX5_98 (dk DX5_numberOfCell_0 18 rfl) [1, 3] rfl rfl rfl rfl (Nat.le_of_ble_eq_true rfl) rfl rfl ⟨Nat.le_of_ble_eq_true rfl, Nat.le_of_ble_eq_true rfl⟩ ⟨Nat.zero_le _, Nat.zero_le _⟩ (fun r9 w9 hq9 => ?_)
    obtain ⟨rfl, rfl⟩ := hq9
    refine Rr 0 0 _ _ _ _ _ _ (Nat.zero_le _) (Nat.zero_le _) (dk DX5_numberOfCell_0 19 rfl) (.inr (.inl ⟨_, rfl, rfl, rfl, rfl⟩)) rfl ?_
    obtain rfl : w9 = 2 := (nI_eq (by omega) (by omega)).mp (show nI w9 = nI 2 from t_1_2)
    exact ⟨rfl, by rw [hC.lad hc, ofI2], rfl⟩
  by_cases t_1_3 : nI w9 = 3
  · refine st_tswIn C (off := 73) (tgt := 74) (dk DX5_numberOfCell_0 1 rfl) (by rw [t_1_3]; decide) (by rw [t_1_3]; decide) (by rw [t_1_3]; rfl) (by decide) ?_
    refine st_aload_n C (dk DX5_numberOfCell_0 20 rfl) rfl ?_
    refine st_get C fl_RX5_10 (dk DX5_numberOfCell_0 21 rfl) 0 rfl rfl ?_
    refine st_iload_n C (dk DX5_numberOfCell_0 22 rfl) rfl ?_
    refine st_cV C (k_X1_floorOf l G) mf_X1_floorOf mi_X1_floorOf ml_RX5_224 (dk DX5_numberOfCell_0 23 rfl) [1] rfl rfl rfl rfl (Nat.le_of_ble_eq_true rfl) rfl rfl ⟨Nat.le_of_ble_eq_true rfl, Nat.le_of_ble_eq_true rfl⟩ ⟨Nat.zero_le _, Nat.zero_le _⟩ (fun r9 w9 hq9 => ?_)
    obtain ⟨rfl, rfl⟩ := hq9
    refine Rr 0 0 _ _ _ _ _ _ (Nat.zero_le _) (Nat.zero_le _) (dk DX5_numberOfCell_0 24 rfl) (.inr (.inl ⟨_, rfl, rfl, rfl, rfl⟩)) rfl ?_
    obtain rfl : w9 = 3 := (nI_eq (by omega) (by omega)).mp (show nI w9 = nI 3 from t_1_3)
    exact ⟨rfl, by rw [hC.floor hc, ofI3], rfl⟩
  by_cases t_1_4 : nI w9 = 4
  · refine st_tswIn C (off := 82) (tgt := 83) (dk DX5_numberOfCell_0 1 rfl) (by rw [t_1_4]; decide) (by rw [t_1_4]; decide) (by rw [t_1_4]; rfl) (by decide) ?_
    refine st_aload_n C (dk DX5_numberOfCell_0 25 rfl) rfl ?_
    refine st_get C fl_RX5_10 (dk DX5_numberOfCell_0 26 rfl) 0 rfl rfl ?_
    refine st_iload_n C (dk DX5_numberOfCell_0 27 rfl) rfl ?_
    refine st_cV C (k_X1_cellBelow l G) mf_X1_cellBelow mi_X1_cellBelow ml_RX5_227 (dk DX5_numberOfCell_0 28 rfl) [1, 3] rfl rfl rfl rfl (Nat.le_of_ble_eq_true rfl) rfl rfl ⟨Nat.le_of_ble_eq_true rfl, Nat.le_of_ble_eq_true rfl⟩ ⟨Nat.zero_le _, Nat.zero_le _⟩ (fun r9 w9 hq9 => ?_)
    obtain ⟨rfl, rfl⟩ := hq9
    refine Rr 0 0 _ _ _ _ _ _ (Nat.zero_le _) (Nat.zero_le _) (dk DX5_numberOfCell_0 29 rfl) (.inr (.inl ⟨_, rfl, rfl, rfl, rfl⟩)) rfl ?_
    obtain rfl : w9 = 4 := (nI_eq (by omega) (by omega)).mp (show nI w9 = nI 4 from t_1_4)
    exact ⟨rfl, by rw [hC.below hc, ofI4], rfl⟩
  by_cases t_1_5 : nI w9 = 5
  · refine st_tswIn C (off := 91) (tgt := 92) (dk DX5_numberOfCell_0 1 rfl) (by rw [t_1_5]; decide) (by rw [t_1_5]; decide) (by rw [t_1_5]; rfl) (by decide) ?_
    refine st_aload_n C (dk DX5_numberOfCell_0 30 rfl) rfl ?_
    refine st_get C fl_RX5_10 (dk DX5_numberOfCell_0 31 rfl) 0 rfl rfl ?_
    refine st_iload_n C (dk DX5_numberOfCell_0 32 rfl) rfl ?_
    refine st_cV C (k_X1_cellAbove l G) mf_X1_cellAbove mi_X1_cellAbove ml_RX5_230 (dk DX5_numberOfCell_0 33 rfl) [1, 3] rfl rfl rfl rfl (Nat.le_of_ble_eq_true rfl) rfl rfl ⟨Nat.le_of_ble_eq_true rfl, Nat.le_of_ble_eq_true rfl⟩ ⟨Nat.zero_le _, Nat.zero_le _⟩ (fun r9 w9 hq9 => ?_)
    obtain ⟨rfl, rfl⟩ := hq9
    refine Rr 0 0 _ _ _ _ _ _ (Nat.zero_le _) (Nat.zero_le _) (dk DX5_numberOfCell_0 34 rfl) (.inr (.inl ⟨_, rfl, rfl, rfl, rfl⟩)) rfl ?_
    obtain rfl : w9 = 5 := (nI_eq (by omega) (by omega)).mp (show nI w9 = nI 5 from t_1_5)
    exact ⟨rfl, by rw [hC.above hc, ofI5], rfl⟩
  refine st_tswOut C (tgt := 101) (dk DX5_numberOfCell_0 1 rfl) (tsw_out 6 (by decide) (by decide) (fun j hj => match j, hj with | 0, _ => t_1_0 | 1, _ => t_1_1 | 2, _ => t_1_2 | 3, _ => t_1_3 | 4, _ => t_1_4 | 5, _ => t_1_5)) (by decide) ?_
  refine st_aload_n C (dk DX5_numberOfCell_0 35 rfl) rfl ?_
  refine st_get C fl_RX5_29 (dk DX5_numberOfCell_0 36 rfl) 0 rfl rfl ?_
  refine st_iload_n C (dk DX5_numberOfCell_0 37 rfl) rfl ?_
  refine st_cV C (k_X3_lengthTo l G) mf_X3_lengthTo mi_X3_lengthTo ml_RX5_134 (dk DX5_numberOfCell_0 38 rfl) [4, 8] rfl rfl rfl rfl (Nat.le_of_ble_eq_true rfl) rfl rfl ⟨Nat.le_of_ble_eq_true rfl, Nat.le_of_ble_eq_true rfl⟩ ⟨Nat.zero_le _, Nat.zero_le _⟩ (fun r9 w9 hq9 => ?_)
  obtain ⟨rfl, rfl⟩ := hq9
  refine Rr 0 0 _ _ _ _ _ _ (Nat.zero_le _) (Nat.zero_le _) (dk DX5_numberOfCell_0 39 rfl) (.inr (.inl ⟨_, rfl, rfl, rfl, rfl⟩)) rfl ?_
  obtain rfl : w9 = 6 := by
    have g0 : ¬ w9 = 0 := fun e => t_1_0 (by rw [e]; rfl)
    have g1 : ¬ w9 = 1 := fun e => t_1_1 (by rw [e]; rfl)
    have g2 : ¬ w9 = 2 := fun e => t_1_2 (by rw [e]; rfl)
    have g3 : ¬ w9 = 3 := fun e => t_1_3 (by rw [e]; rfl)
    have g4 : ¬ w9 = 4 := fun e => t_1_4 (by rw [e]; rfl)
    have g5 : ¬ w9 = 5 := fun e => t_1_5 (by rw [e]; rfl)
    omega
  refine ⟨rfl, ?_, rfl⟩
  unfold rLen
  rw [rIn_nI (n := 16) (m := 16) (by omega) (by decide) rfl, if_pos hc, if_neg (by decide), nI_clamp (by omega), (hS rfl).2.1 c hc, ofI6]
set_option maxHeartbeats 4000000 in
set_option maxRecDepth 100000 in
theorem k_X5_numberOfWalker (l : Launch) (G : wG) {K p q1 q2 o o1 o2 v t t1 t2 t3 t4 y y1 : Nat} {s : mS} {ns lk ld : Nat → Int32} {z : Int32} {w9 : Nat} (hC : CRep s ns lk ld) (hz : z = nI w9) (hw : w9 ≤ 4) : Con0 l G yX5_numberOfWalker cX5_numberOfWalker 2 (some .int) 2 [.ref K, .int z] [(K, ob 4 (kF p o v t y)), (p, ob 0 (cR q1 q2 ns)), (q1, aI G 15 lk), (q2, aI G 16 ld)] (fun r w => r = some (.int (nI (s (1 + w9)))) ∧ w = [(K, ob 4 (kF p o v t y)), (p, ob 0 (cR q1 q2 ns)), (q1, aI G 15 lk), (q2, aI G 16 ld)]) := by
  refine Con.mk (by decide +kernel) (Nat.le_of_ble_eq_true rfl) (fun P C Rr => ?_)
  subst hz
  refine st_iload_n C (dk DX5_numberOfWalker_0 0 rfl) rfl ?_
  by_cases t_1_0 : nI w9 = 0
  · refine st_tswIn C (off := 31) (tgt := 32) (dk DX5_numberOfWalker_0 1 rfl) (by rw [t_1_0]; decide) (by rw [t_1_0]; decide) (by rw [t_1_0]; rfl) (by decide) ?_
    refine st_aload_n C (dk DX5_numberOfWalker_0 2 rfl) rfl ?_
    refine st_get C fl_RX5_10 (dk DX5_numberOfWalker_0 3 rfl) 0 rfl rfl ?_
    refine st_get C fl_RX5_78 (dk DX5_numberOfWalker_0 4 rfl) 1 rfl rfl ?_
    refine st_cS C (k_X0_cellOf l G) mf_X0_cellOf ms_X0_cellOf ml_RX5_109 (dk DX5_numberOfWalker_0 5 rfl) [] rfl rfl rfl rfl (Nat.le_of_ble_eq_true rfl) ⟨Nat.le_of_ble_eq_true rfl, Nat.le_of_ble_eq_true rfl⟩ ⟨Nat.zero_le _, Nat.zero_le _⟩ (fun r9 w9 hq9 => ?_)
    obtain ⟨rfl, rfl⟩ := hq9
    refine Rr 0 0 _ _ _ _ _ _ (Nat.zero_le _) (Nat.zero_le _) (dk DX5_numberOfWalker_0 6 rfl) (.inr (.inl ⟨_, rfl, rfl, rfl, rfl⟩)) rfl ?_
    obtain rfl : w9 = 0 := (nI_eq (by omega) (by omega)).mp (show nI w9 = nI 0 from t_1_0)
    exact ⟨rfl, by rw [hC.co], rfl⟩
  by_cases t_1_1 : nI w9 = 1
  · refine st_tswIn C (off := 42) (tgt := 43) (dk DX5_numberOfWalker_0 1 rfl) (by rw [t_1_1]; decide) (by rw [t_1_1]; decide) (by rw [t_1_1]; rfl) (by decide) ?_
    refine st_aload_n C (dk DX5_numberOfWalker_0 7 rfl) rfl ?_
    refine st_get C fl_RX5_10 (dk DX5_numberOfWalker_0 8 rfl) 0 rfl rfl ?_
    refine st_aload_n C (dk DX5_numberOfWalker_0 9 rfl) rfl ?_
    refine st_get C fl_RX5_10 (dk DX5_numberOfWalker_0 10 rfl) 0 rfl rfl ?_
    refine st_get C fl_RX5_78 (dk DX5_numberOfWalker_0 11 rfl) 1 rfl rfl ?_
    refine st_bipush C (v := 16) (dk DX5_numberOfWalker_0 12 rfl) (by decide) ?_
    refine st_cV C (k_X1_bowIn l G) mf_X1_bowIn mi_X1_bowIn ml_RX5_82 (dk DX5_numberOfWalker_0 13 rfl) [1] rfl rfl rfl rfl (Nat.le_of_ble_eq_true rfl) rfl rfl ⟨Nat.le_of_ble_eq_true rfl, Nat.le_of_ble_eq_true rfl⟩ ⟨Nat.zero_le _, Nat.zero_le _⟩ (fun r9 w9 hq9 => ?_)
    obtain ⟨rfl, rfl⟩ := hq9
    refine Rr 0 0 _ _ _ _ _ _ (Nat.zero_le _) (Nat.zero_le _) (dk DX5_numberOfWalker_0 14 rfl) (.inr (.inl ⟨_, rfl, rfl, rfl, rfl⟩)) rfl ?_
    obtain rfl : w9 = 1 := (nI_eq (by omega) (by omega)).mp (show nI w9 = nI 1 from t_1_1)
    exact ⟨rfl, by rw [hC.hand], rfl⟩
  by_cases t_1_2 : nI w9 = 2
  · refine st_tswIn C (off := 59) (tgt := 60) (dk DX5_numberOfWalker_0 1 rfl) (by rw [t_1_2]; decide) (by rw [t_1_2]; decide) (by rw [t_1_2]; rfl) (by decide) ?_
    refine st_aload_n C (dk DX5_numberOfWalker_0 15 rfl) rfl ?_
    refine st_get C fl_RX5_10 (dk DX5_numberOfWalker_0 16 rfl) 0 rfl rfl ?_
    refine st_get C fl_RX5_233 (dk DX5_numberOfWalker_0 17 rfl) 1 rfl rfl ?_
    refine Rr 0 0 _ _ _ _ _ _ (Nat.zero_le _) (Nat.zero_le _) (dk DX5_numberOfWalker_0 18 rfl) (.inr (.inl ⟨_, rfl, rfl, rfl, rfl⟩)) rfl ?_
    obtain rfl : w9 = 2 := (nI_eq (by omega) (by omega)).mp (show nI w9 = nI 2 from t_1_2)
    exact ⟨rfl, by rw [hC.2.2.2.1.2.1], rfl⟩
  by_cases t_1_3 : nI w9 = 3
  · refine st_tswIn C (off := 67) (tgt := 68) (dk DX5_numberOfWalker_0 1 rfl) (by rw [t_1_3]; decide) (by rw [t_1_3]; decide) (by rw [t_1_3]; rfl) (by decide) ?_
    refine st_aload_n C (dk DX5_numberOfWalker_0 19 rfl) rfl ?_
    refine st_get C fl_RX5_10 (dk DX5_numberOfWalker_0 20 rfl) 0 rfl rfl ?_
    refine st_get C fl_RX5_236 (dk DX5_numberOfWalker_0 21 rfl) 1 rfl rfl ?_
    refine Rr 0 0 _ _ _ _ _ _ (Nat.zero_le _) (Nat.zero_le _) (dk DX5_numberOfWalker_0 22 rfl) (.inr (.inl ⟨_, rfl, rfl, rfl, rfl⟩)) rfl ?_
    obtain rfl : w9 = 3 := (nI_eq (by omega) (by omega)).mp (show nI w9 = nI 3 from t_1_3)
    exact ⟨rfl, by rw [hC.2.2.2.1.2.2.1], rfl⟩
  refine st_tswOut C (tgt := 76) (dk DX5_numberOfWalker_0 1 rfl) (tsw_out 4 (by decide) (by decide) (fun j hj => match j, hj with | 0, _ => t_1_0 | 1, _ => t_1_1 | 2, _ => t_1_2 | 3, _ => t_1_3)) (by decide) ?_
  refine st_aload_n C (dk DX5_numberOfWalker_0 23 rfl) rfl ?_
  refine st_get C fl_RX5_10 (dk DX5_numberOfWalker_0 24 rfl) 0 rfl rfl ?_
  refine st_get C fl_RX5_239 (dk DX5_numberOfWalker_0 25 rfl) 1 rfl rfl ?_
  refine Rr 0 0 _ _ _ _ _ _ (Nat.zero_le _) (Nat.zero_le _) (dk DX5_numberOfWalker_0 26 rfl) (.inr (.inl ⟨_, rfl, rfl, rfl, rfl⟩)) rfl ?_
  obtain rfl : w9 = 4 := by
    have g0 : ¬ w9 = 0 := fun e => t_1_0 (by rw [e]; rfl)
    have g1 : ¬ w9 = 1 := fun e => t_1_1 (by rw [e]; rfl)
    have g2 : ¬ w9 = 2 := fun e => t_1_2 (by rw [e]; rfl)
    have g3 : ¬ w9 = 3 := fun e => t_1_3 (by rw [e]; rfl)
    omega
  exact ⟨rfl, by rw [hC.2.2.2.1.2.2.2], rfl⟩
set_option maxHeartbeats 4000000 in
set_option maxRecDepth 100000 in
theorem k_X5_numberInAll (l : Launch) (G : wG) {K p q1 q2 o o1 o2 v t t1 t2 t3 t4 y y1 : Nat} {s : mS} {ns lk ld : Nat → Int32} {zz rc : Int32} {en : Nat → Int32} {sn : Nat → Int64} {nd ln : Nat → Int32} {v1 : Nat} {nx sz z : Int32} {k w9 : Nat} (hC : CRep s ns lk ld) (hsz : sz = nI k) (hz : z = nI w9) (hw : w9 ≤ 6) (hS : w9 = 3 ∨ w9 = 4 → SRx s rc en nd ln) : Con0 l G yX5_numberInAll cX5_numberInAll 2 (some .int) 3 [.ref K, .int z] [(K, ob 4 (kF p o v t y)), (p, ob 0 (cR q1 q2 ns)), (q1, aI G 15 lk), (q2, aI G 16 ld), (v, ob 1 (vF v1 nx sz)), (t, ob 2 (sF t1 t2 t3 t4 zz rc)), (t1, aI G 4624 en), (t2, aJ G 256 sn), (t3, aI G 16 nd), (t4, aI G 16 ln)] (fun r w => r = some (.int (coI s k w9)) ∧ w = [(K, ob 4 (kF p o v t y)), (p, ob 0 (cR q1 q2 ns)), (q1, aI G 15 lk), (q2, aI G 16 ld), (v, ob 1 (vF v1 nx sz)), (t, ob 2 (sF t1 t2 t3 t4 zz rc)), (t1, aI G 4624 en), (t2, aJ G 256 sn), (t3, aI G 16 nd), (t4, aI G 16 ln)]) := by
  refine Con.mk (by decide +kernel) (Nat.le_of_ble_eq_true rfl) (fun P C Rr => ?_)
  subst hz
  refine st_iload_n C (dk DX5_numberInAll_0 0 rfl) rfl ?_
  by_cases t_1_0 : nI w9 = 0
  · refine st_tswIn C (off := 39) (tgt := 40) (dk DX5_numberInAll_0 1 rfl) (by rw [t_1_0]; decide) (by rw [t_1_0]; decide) (by rw [t_1_0]; rfl) (by decide) ?_
    refine st_aload_n C (dk DX5_numberInAll_0 2 rfl) rfl ?_
    refine st_get C fl_RX5_10 (dk DX5_numberInAll_0 3 rfl) 0 rfl rfl ?_
    refine st_cV C (k_X1_keys l G) mf_X1_keys mi_X1_keys ml_RX5_86 (dk DX5_numberInAll_0 4 rfl) [1] rfl rfl rfl rfl (Nat.le_of_ble_eq_true rfl) rfl rfl ⟨Nat.le_of_ble_eq_true rfl, Nat.le_of_ble_eq_true rfl⟩ ⟨Nat.zero_le _, Nat.zero_le _⟩ (fun r9 w9 hq9 => ?_)
    obtain ⟨rfl, rfl⟩ := hq9
    refine Rr 0 0 _ _ _ _ _ _ (Nat.zero_le _) (Nat.zero_le _) (dk DX5_numberInAll_0 5 rfl) (.inr (.inl ⟨_, rfl, rfl, rfl, rfl⟩)) rfl ?_
    obtain rfl : w9 = 0 := (nI_eq (by omega) (by omega)).mp (show nI w9 = nI 0 from t_1_0)
    exact ⟨rfl, by rw [hC.keys.1, coI0], rfl⟩
  by_cases t_1_1 : nI w9 = 1
  · refine st_tswIn C (off := 47) (tgt := 48) (dk DX5_numberInAll_0 1 rfl) (by rw [t_1_1]; decide) (by rw [t_1_1]; decide) (by rw [t_1_1]; rfl) (by decide) ?_
    refine st_aload_n C (dk DX5_numberInAll_0 6 rfl) rfl ?_
    refine st_get C fl_RX5_10 (dk DX5_numberInAll_0 7 rfl) 0 rfl rfl ?_
    refine st_cV C (k_X1_doors l G) mf_X1_doors mi_X1_doors ml_RX5_242 (dk DX5_numberInAll_0 8 rfl) [1, 2] rfl rfl rfl rfl (Nat.le_of_ble_eq_true rfl) rfl rfl ⟨Nat.le_of_ble_eq_true rfl, Nat.le_of_ble_eq_true rfl⟩ ⟨Nat.zero_le _, Nat.zero_le _⟩ (fun r9 w9 hq9 => ?_)
    obtain ⟨rfl, rfl⟩ := hq9
    refine Rr 0 0 _ _ _ _ _ _ (Nat.zero_le _) (Nat.zero_le _) (dk DX5_numberInAll_0 9 rfl) (.inr (.inl ⟨_, rfl, rfl, rfl, rfl⟩)) rfl ?_
    obtain rfl : w9 = 1 := (nI_eq (by omega) (by omega)).mp (show nI w9 = nI 1 from t_1_1)
    exact ⟨rfl, by rw [hC.doors 15 (Nat.le_refl _), coI1], rfl⟩
  by_cases t_1_2 : nI w9 = 2
  · refine st_tswIn C (off := 55) (tgt := 56) (dk DX5_numberInAll_0 1 rfl) (by rw [t_1_2]; decide) (by rw [t_1_2]; decide) (by rw [t_1_2]; rfl) (by decide) ?_
    refine st_aload_n C (dk DX5_numberInAll_0 10 rfl) rfl ?_
    refine st_get C fl_RX5_10 (dk DX5_numberInAll_0 11 rfl) 0 rfl rfl ?_
    refine st_cV C (k_X1_laddersBetween l G) mf_X1_laddersBetween mi_X1_laddersBetween ml_RX5_245 (dk DX5_numberInAll_0 12 rfl) [1, 3] rfl rfl rfl rfl (Nat.le_of_ble_eq_true rfl) rfl rfl ⟨Nat.le_of_ble_eq_true rfl, Nat.le_of_ble_eq_true rfl⟩ ⟨Nat.zero_le _, Nat.zero_le _⟩ (fun r9 w9 hq9 => ?_)
    obtain ⟨rfl, rfl⟩ := hq9
    refine Rr 0 0 _ _ _ _ _ _ (Nat.zero_le _) (Nat.zero_le _) (dk DX5_numberInAll_0 13 rfl) (.inr (.inl ⟨_, rfl, rfl, rfl, rfl⟩)) rfl ?_
    obtain rfl : w9 = 2 := (nI_eq (by omega) (by omega)).mp (show nI w9 = nI 2 from t_1_2)
    exact ⟨rfl, by rw [hC.lads 16 (Nat.le_refl _), coI2], rfl⟩
  by_cases t_1_3 : nI w9 = 3
  · refine st_tswIn C (off := 63) (tgt := 64) (dk DX5_numberInAll_0 1 rfl) (by rw [t_1_3]; decide) (by rw [t_1_3]; decide) (by rw [t_1_3]; rfl) (by decide) ?_
    refine st_aload_n C (dk DX5_numberInAll_0 14 rfl) rfl ?_
    refine st_get C fl_RX5_29 (dk DX5_numberInAll_0 15 rfl) 0 rfl rfl ?_
    refine st_get C fl_RX5_193 (dk DX5_numberInAll_0 16 rfl) 5 rfl rfl ?_
    refine Rr 0 0 _ _ _ _ _ _ (Nat.zero_le _) (Nat.zero_le _) (dk DX5_numberInAll_0 17 rfl) (.inr (.inl ⟨_, rfl, rfl, rfl, rfl⟩)) rfl ?_
    obtain rfl : w9 = 3 := (nI_eq (by omega) (by omega)).mp (show nI w9 = nI 3 from t_1_3)
    exact ⟨rfl, by rw [(hS (Or.inl rfl)).1, coI3], rfl⟩
  by_cases t_1_4 : nI w9 = 4
  · refine st_tswIn C (off := 71) (tgt := 72) (dk DX5_numberInAll_0 1 rfl) (by rw [t_1_4]; decide) (by rw [t_1_4]; decide) (by rw [t_1_4]; rfl) (by decide) ?_
    refine st_aload_n C (dk DX5_numberInAll_0 18 rfl) rfl ?_
    refine st_get C fl_RX5_29 (dk DX5_numberInAll_0 19 rfl) 0 rfl rfl ?_
    refine st_cV C (k_X3_mostLength l G) mf_X3_mostLength mi_X3_mostLength ml_RX5_248 (dk DX5_numberInAll_0 20 rfl) [5, 9] rfl rfl rfl rfl (Nat.le_of_ble_eq_true rfl) rfl rfl ⟨Nat.le_of_ble_eq_true rfl, Nat.le_of_ble_eq_true rfl⟩ ⟨Nat.zero_le _, Nat.zero_le _⟩ (fun r9 w9 hq9 => ?_)
    obtain ⟨rfl, rfl⟩ := hq9
    refine Rr 0 0 _ _ _ _ _ _ (Nat.zero_le _) (Nat.zero_le _) (dk DX5_numberInAll_0 21 rfl) (.inr (.inl ⟨_, rfl, rfl, rfl, rfl⟩)) rfl ?_
    obtain rfl : w9 = 4 := (nI_eq (by omega) (by omega)).mp (show nI w9 = nI 4 from t_1_4)
    exact ⟨rfl, by rw [(hS (Or.inr rfl)).most 16 (Nat.le_refl _), coI4], rfl⟩
  by_cases t_1_5 : nI w9 = 5
  · refine st_tswIn C (off := 79) (tgt := 80) (dk DX5_numberInAll_0 1 rfl) (by rw [t_1_5]; decide) (by rw [t_1_5]; decide) (by rw [t_1_5]; rfl) (by decide) ?_
    refine st_aload_n C (dk DX5_numberInAll_0 22 rfl) rfl ?_
    refine st_get C fl_RX5_10 (dk DX5_numberInAll_0 23 rfl) 0 rfl rfl ?_
    refine st_get C fl_RX5_106 (dk DX5_numberInAll_0 24 rfl) 1 rfl rfl ?_
    refine Rr 0 0 _ _ _ _ _ _ (Nat.zero_le _) (Nat.zero_le _) (dk DX5_numberInAll_0 25 rfl) (.inr (.inl ⟨_, rfl, rfl, rfl, rfl⟩)) rfl ?_
    obtain rfl : w9 = 5 := (nI_eq (by omega) (by omega)).mp (show nI w9 = nI 5 from t_1_5)
    exact ⟨rfl, by rw [hC.2.2.2.1.1, coI5], rfl⟩
  refine st_tswOut C (tgt := 88) (dk DX5_numberInAll_0 1 rfl) (tsw_out 6 (by decide) (by decide) (fun j hj => match j, hj with | 0, _ => t_1_0 | 1, _ => t_1_1 | 2, _ => t_1_2 | 3, _ => t_1_3 | 4, _ => t_1_4 | 5, _ => t_1_5)) (by decide) ?_
  refine st_aload_n C (dk DX5_numberInAll_0 26 rfl) rfl ?_
  refine st_get C fl_RX5_22 (dk DX5_numberInAll_0 27 rfl) 0 rfl rfl ?_
  refine st_get C fl_RX5_161 (dk DX5_numberInAll_0 28 rfl) 4 rfl rfl ?_
  refine Rr 0 0 _ _ _ _ _ _ (Nat.zero_le _) (Nat.zero_le _) (dk DX5_numberInAll_0 29 rfl) (.inr (.inl ⟨_, rfl, rfl, rfl, rfl⟩)) rfl ?_
  obtain rfl : w9 = 6 := by
    have g0 : ¬ w9 = 0 := fun e => t_1_0 (by rw [e]; rfl)
    have g1 : ¬ w9 = 1 := fun e => t_1_1 (by rw [e]; rfl)
    have g2 : ¬ w9 = 2 := fun e => t_1_2 (by rw [e]; rfl)
    have g3 : ¬ w9 = 3 := fun e => t_1_3 (by rw [e]; rfl)
    have g4 : ¬ w9 = 4 := fun e => t_1_4 (by rw [e]; rfl)
    have g5 : ¬ w9 = 5 := fun e => t_1_5 (by rw [e]; rfl)
    omega
  exact ⟨rfl, by rw [hsz, coI6], rfl⟩
