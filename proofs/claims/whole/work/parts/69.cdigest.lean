/-! the landed class: digest -/
set_option maxHeartbeats 4000000 in
set_option maxRecDepth 100000 in
theorem k_X5_digest (l : Launch) (G : wG) {K p q1 q2 o o1 o2 v v1 t t1 t2 t3 t4 y y1 : Nat} {s : mS} {ns lk ld : Nat → Int32} {os olk old : Nat → Int32} {zz rc : Int32} {en : Nat → Int32} {sn : Nat → Int64} {nd ln : Nat → Int32} {tl ce la : Int32} {cd : Nat → Int32} {n : Nat} {tx : Nat → Nat} {nx sz : Int32} {k : Nat} (hC : CRep s ns lk ld) (hsz : sz = nI k) (htl : tl = nI n) (hn : n ≤ 60) (ht : hdT cd n tx) : Con0 l G yX5_digest cX5_digest 5 (some .long) 6 [.ref K] [(K, ob 4 (kF p o v t y)), (p, ob 0 (cR q1 q2 ns)), (q1, aI G 15 lk), (q2, aI G 16 ld), (o, ob 0 (cR o1 o2 os)), (o1, aI G 15 olk), (o2, aI G 16 old), (v, ob 1 (vF v1 nx sz)), (t, ob 2 (sF t1 t2 t3 t4 zz rc)), (t1, aI G 4624 en), (t2, aJ G 256 sn), (t3, aI G 16 nd), (t4, aI G 16 ln), (y, ob 3 (tF y1 tl ce la)), (y1, aI G 60 cd)] (fun r w => r = some (.long (digI s k n tx)) ∧ ∃ (os9 olk9 old9 : Nat → Int32) (zz9 rc9 : Int32) (en9 : Nat → Int32) (sn9 : Nat → Int64) (nd9 ln9 : Nat → Int32), w = [(K, ob 4 (kF p o v t y)), (p, ob 0 (cR q1 q2 ns)), (q1, aI G 15 lk), (q2, aI G 16 ld), (o, ob 0 (cR o1 o2 os9)), (o1, aI G 15 olk9), (o2, aI G 16 old9), (v, ob 1 (vF v1 nx sz)), (t, ob 2 (sF t1 t2 t3 t4 zz9 rc9)), (t1, aI G 4624 en9), (t2, aJ G 256 sn9), (t3, aI G 16 nd9), (t4, aI G 16 ln9), (y, ob 3 (tF y1 tl ce la)), (y1, aI G 60 cd)]) := by
  refine Con.mk (by decide +kernel) (Nat.le_of_ble_eq_true rfl) (fun P C Rr => ?_)
  obtain ⟨ec, e1, e2, e3⟩ := hC.srch
  refine st_aload_n C (dk DX5_digest_0 0 rfl) rfl ?_
  refine st_get C fl_RX5_29 (dk DX5_digest_0 1 rfl) 0 rfl rfl ?_
  refine st_aload_n C (dk DX5_digest_0 2 rfl) rfl ?_
  refine st_get C fl_RX5_10 (dk DX5_digest_0 3 rfl) 0 rfl rfl ?_
  refine st_cV C (k_X3_run l G e1 e2 e3) mf_X3_run mi_X3_run ml_RX5_131 (dk DX5_digest_0 4 rfl) [8, 9, 10, 11, 12, 1, 2, 3] rfl rfl rfl rfl (Nat.le_of_ble_eq_true rfl) rfl rfl ⟨Nat.le_of_ble_eq_true rfl, Nat.le_of_ble_eq_true rfl⟩ ⟨Nat.zero_le _, Nat.zero_le _⟩ (fun r9 w9 hq9 => ?_)
  obtain ⟨rfl, sz8, rc8, en8, sn8, nd8, ln8, hres8, rfl⟩ := hq9
  simp only [put_cons, put_nil, List.set_cons_zero, List.set_cons_succ]
  have hSx : SRx s rc8 en8 nd8 ln8 := SRes.plan hC.1 (fun t ht => (e1.1 t ht).2.1) hres8
  refine st_aload_n C (dk DX5_digest_0 5 rfl) rfl ?_
  refine st_get C fl_RX5_29 (dk DX5_digest_0 6 rfl) 0 rfl rfl ?_
  refine st_get C fl_RX5_193 (dk DX5_digest_0 7 rfl) 8 rfl rfl ?_
  refine st_istore_n C (dk DX5_digest_0 8 rfl) (by decide) rfl ?_
  refine st_aload_n C (dk DX5_digest_0 9 rfl) rfl ?_
  refine st_ldc2 C (dk DX5_digest_0 10 rfl) kc_RX5_198 ?_
  refine st_cV C (k_X5_digestOfLooks l G hC hsz hSx) mf_X5_digestOfLooks mi_X5_digestOfLooks ml_RX5_200 (dk DX5_digest_0 11 rfl) [0, 1, 2, 3, 7, 8, 9, 10, 11, 12] rfl rfl rfl rfl (Nat.le_of_ble_eq_true rfl) rfl rfl ⟨Nat.le_of_ble_eq_true rfl, Nat.le_of_ble_eq_true rfl⟩ ⟨Nat.zero_le _, Nat.zero_le _⟩ (fun r9 w9 hq9 => ?_)
  obtain ⟨rfl, rfl⟩ := hq9
  simp only [put_cons, put_nil, List.set_cons_zero, List.set_cons_succ]
  refine st_lstore_n C (dk DX5_digest_0 12 rfl) (by decide) rfl rfl ?_
  refine st_lload_n C (dk DX5_digest_0 13 rfl) rfl ?_
  refine st_aload_n C (dk DX5_digest_0 14 rfl) rfl ?_
  refine st_iconst C (v := 0) (dk DX5_digest_0 15 rfl) (by decide) ?_
  refine st_cV C (k_X5_reachedWithoutKey l G (j := 0) hC rfl (by omega)) mf_X5_reachedWithoutKey mi_X5_reachedWithoutKey ml_RX5_187 (dk DX5_digest_0 16 rfl) [0, 1, 2, 3, 4, 5, 6, 8, 9, 10, 11, 12] rfl rfl rfl rfl (Nat.le_of_ble_eq_true rfl) rfl rfl ⟨Nat.le_of_ble_eq_true rfl, Nat.le_of_ble_eq_true rfl⟩ ⟨Nat.zero_le _, Nat.zero_le _⟩ (fun r9 w9 hq9 => ?_)
  obtain ⟨rfl, os30, olk30, old30, zz30, rc30, en30, sn30, nd30, ln30, rfl⟩ := hq9
  simp only [put_cons, put_nil, List.set_cons_zero, List.set_cons_succ]
  refine st_i2l C (dk DX5_digest_0 17 rfl) ?_
  refine st_cS C (k_X5_mix l G) mf_X5_mix ms_X5_mix ml_RX5_204 (dk DX5_digest_0 18 rfl) [] rfl rfl rfl rfl (Nat.le_of_ble_eq_true rfl) ⟨Nat.le_of_ble_eq_true rfl, Nat.le_of_ble_eq_true rfl⟩ ⟨Nat.zero_le _, Nat.zero_le _⟩ (fun r9 w9 hq9 => ?_)
  obtain ⟨rfl, rfl⟩ := hq9
  show P _ _ _ _ _ [_, _, _, _, _, _, _, _, _, _, _, _, _, _, _]
  refine st_lstore_n C (dk DX5_digest_0 19 rfl) (by decide) rfl rfl ?_
  refine st_lload_n C (dk DX5_digest_0 20 rfl) rfl ?_
  refine st_aload_n C (dk DX5_digest_0 21 rfl) rfl ?_
  refine st_bipush C (v := 7) (dk DX5_digest_0 22 rfl) (by decide) ?_
  refine st_iconst C (v := 3) (dk DX5_digest_0 23 rfl) (by decide) ?_
  refine st_cV C (k_X5_reachedWithDoor l G (j := 7) (i := 3) hC rfl (by omega) rfl (by omega)) mf_X5_reachedWithDoor mi_X5_reachedWithDoor ml_RX5_184 (dk DX5_digest_0 24 rfl) [0, 1, 2, 3, 4, 5, 6, 8, 9, 10, 11, 12] rfl rfl rfl rfl (Nat.le_of_ble_eq_true rfl) rfl rfl ⟨Nat.le_of_ble_eq_true rfl, Nat.le_of_ble_eq_true rfl⟩ ⟨Nat.zero_le _, Nat.zero_le _⟩ (fun r9 w9 hq9 => ?_)
  obtain ⟨rfl, os43, olk43, old43, zz43, rc43, en43, sn43, nd43, ln43, rfl⟩ := hq9
  simp only [put_cons, put_nil, List.set_cons_zero, List.set_cons_succ]
  refine st_i2l C (dk DX5_digest_0 25 rfl) ?_
  refine st_cS C (k_X5_mix l G) mf_X5_mix ms_X5_mix ml_RX5_204 (dk DX5_digest_0 26 rfl) [] rfl rfl rfl rfl (Nat.le_of_ble_eq_true rfl) ⟨Nat.le_of_ble_eq_true rfl, Nat.le_of_ble_eq_true rfl⟩ ⟨Nat.zero_le _, Nat.zero_le _⟩ (fun r9 w9 hq9 => ?_)
  obtain ⟨rfl, rfl⟩ := hq9
  show P _ _ _ _ _ [_, _, _, _, _, _, _, _, _, _, _, _, _, _, _]
  refine st_lstore_n C (dk DX5_digest_0 27 rfl) (by decide) rfl rfl ?_
  refine st_lload_n C (dk DX5_digest_0 28 rfl) rfl ?_
  refine st_iload_n C (dk DX5_digest_0 29 rfl) rfl ?_
  refine st_cS C (k_X5_bitsOfShare l G (k := cnt (fS s) 16) hSx.1 (by have := cnt_le (fS s) 16; omega) (cnt_pos hC.1)) mf_X5_bitsOfShare ms_X5_bitsOfShare ml_RX5_208 (dk DX5_digest_0 30 rfl) [] rfl rfl rfl rfl (Nat.le_of_ble_eq_true rfl) ⟨Nat.le_of_ble_eq_true rfl, Nat.le_of_ble_eq_true rfl⟩ ⟨Nat.zero_le _, Nat.zero_le _⟩ (fun r9 w9 hq9 => ?_)
  obtain ⟨rfl, rfl⟩ := hq9
  show P _ _ _ _ _ [_, _, _, _, _, _, _, _, _, _, _, _, _, _, _]
  refine st_cS C (k_X5_mix l G) mf_X5_mix ms_X5_mix ml_RX5_204 (dk DX5_digest_0 31 rfl) [] rfl rfl rfl rfl (Nat.le_of_ble_eq_true rfl) ⟨Nat.le_of_ble_eq_true rfl, Nat.le_of_ble_eq_true rfl⟩ ⟨Nat.zero_le _, Nat.zero_le _⟩ (fun r9 w9 hq9 => ?_)
  obtain ⟨rfl, rfl⟩ := hq9
  show P _ _ _ _ _ [_, _, _, _, _, _, _, _, _, _, _, _, _, _, _]
  refine st_lstore_n C (dk DX5_digest_0 32 rfl) (by decide) rfl rfl ?_
  refine st_lload_n C (dk DX5_digest_0 33 rfl) rfl ?_
  refine st_aload_n C (dk DX5_digest_0 34 rfl) rfl ?_
  refine st_get C fl_RX5_36 (dk DX5_digest_0 35 rfl) 0 rfl rfl ?_
  refine st_get C fl_RX5_144 (dk DX5_digest_0 36 rfl) 13 rfl rfl ?_
  refine st_i2l C (dk DX5_digest_0 37 rfl) ?_
  refine st_cS C (k_X5_mix l G) mf_X5_mix ms_X5_mix ml_RX5_204 (dk DX5_digest_0 38 rfl) [] rfl rfl rfl rfl (Nat.le_of_ble_eq_true rfl) ⟨Nat.le_of_ble_eq_true rfl, Nat.le_of_ble_eq_true rfl⟩ ⟨Nat.zero_le _, Nat.zero_le _⟩ (fun r9 w9 hq9 => ?_)
  obtain ⟨rfl, rfl⟩ := hq9
  show P _ _ _ _ _ [_, _, _, _, _, _, _, _, _, _, _, _, _, _, _]
  refine st_lstore_n C (dk DX5_digest_0 39 rfl) (by decide) rfl rfl ?_
  refine st_iconst C (v := 0) (dk DX5_digest_1 0 rfl) (by decide) ?_
  refine st_istore C (dk DX5_digest_1 1 rfl) (by decide) rfl ?_
  have loop : ∀ (m i : Nat) (x : Int32) (h : Int64), i + m = n → x = nI i → h = hN (fun j => nI (tx j)) (dg6 s k n) i → P 0 0 76 [(0, .ref K), (1, .int rc8), (2, .long h), (4, .int x)] [] [(K, ob 4 (kF p o v t y)), (p, ob 0 (cR q1 q2 ns)), (q1, aI G 15 lk), (q2, aI G 16 ld), (o, ob 0 (cR o1 o2 os43)), (o1, aI G 15 olk43), (o2, aI G 16 old43), (v, ob 1 (vF v1 nx sz)), (t, ob 2 (sF t1 t2 t3 t4 zz43 rc43)), (t1, aI G 4624 en43), (t2, aJ G 256 sn43), (t3, aI G 16 nd43), (t4, aI G 16 ln43), (y, ob 3 (tF y1 tl ce la)), (y1, aI G 60 cd)] := by
    intro m
    induction m with
    | zero =>
      intro i x h hi hx hh
      have hin : i = n := by omega
      refine st_iload C (dk DX5_digest_1 2 rfl) rfl ?_
      refine st_aload_n C (dk DX5_digest_1 3 rfl) rfl ?_
      refine st_get C fl_RX5_36 (dk DX5_digest_1 4 rfl) 0 rfl rfl ?_
      refine st_get C fl_RX5_144 (dk DX5_digest_1 5 rfl) 13 rfl rfl ?_
      refine st_icmp_ge C (tgt := 109) (dk DX5_digest_1 6 rfl) (by decide) (fun c_85 => ?_) (fun c_85 => ?_)
      · refine st_lload_n C (dk DX5_digest_1 17 rfl) rfl ?_
        exact Rr 0 0 _ _ _ _ _ _ (Nat.zero_le _) (Nat.zero_le _) (dk DX5_digest_1 18 rfl) (.inr (.inr (.inr (.inl ⟨_, rfl, rfl, rfl, rfl⟩)))) rfl ⟨rfl, ⟨by rw [hh, hin, digI], os43, olk43, old43, zz43, rc43, en43, sn43, nd43, ln43, rfl⟩⟩
      · exact absurd ((ge_nI (a := n) (i := i) (by omega) (by omega) htl hx).mpr (by omega)) c_85
    | succ m ih =>
      intro i x h hi hx hh
      refine st_iload C (dk DX5_digest_1 2 rfl) rfl ?_
      refine st_aload_n C (dk DX5_digest_1 3 rfl) rfl ?_
      refine st_get C fl_RX5_36 (dk DX5_digest_1 4 rfl) 0 rfl rfl ?_
      refine st_get C fl_RX5_144 (dk DX5_digest_1 5 rfl) 13 rfl rfl ?_
      refine st_icmp_ge C (tgt := 109) (dk DX5_digest_1 6 rfl) (by decide) (fun c_85 => ?_) (fun c_85 => ?_)
      · exact absurd ((ge_nI (a := n) (i := i) (by omega) (by omega) htl hx).mp c_85) (by omega)
      · refine st_lload_n C (dk DX5_digest_1 7 rfl) rfl ?_
        refine st_aload_n C (dk DX5_digest_1 8 rfl) rfl ?_
        refine st_get C fl_RX5_36 (dk DX5_digest_1 9 rfl) 0 rfl rfl ?_
        refine st_iload C (dk DX5_digest_1 10 rfl) rfl ?_
        refine st_cV C (k_X4_codeAt l G) mf_X4_codeAt mi_X4_codeAt ml_RX5_212 (dk DX5_digest_1 11 rfl) [13, 14] rfl rfl rfl rfl (Nat.le_of_ble_eq_true rfl) rfl rfl ⟨Nat.le_of_ble_eq_true rfl, Nat.le_of_ble_eq_true rfl⟩ ⟨Nat.zero_le _, Nat.zero_le _⟩ (fun r9 w9 hq9 => ?_)
        obtain ⟨rfl, rfl⟩ := hq9
        show P _ _ _ _ _ [_, _, _, _, _, _, _, _, _, _, _, _, _, _, _]
        rw [show rAt cd x = nI (tx i) by unfold rAt; rw [hx, if_neg (nI_pos (by omega)), if_neg (fun e => by have := (ge_nI (a := 60) (i := i) (by decide) (by omega) rfl rfl).mp e; omega), nI_clamp (by omega)]; exact (ht i (by omega)).1]
        refine st_i2l C (dk DX5_digest_1 12 rfl) ?_
        refine st_cS C (k_X5_mix l G) mf_X5_mix ms_X5_mix ml_RX5_204 (dk DX5_digest_1 13 rfl) [] rfl rfl rfl rfl (Nat.le_of_ble_eq_true rfl) ⟨Nat.le_of_ble_eq_true rfl, Nat.le_of_ble_eq_true rfl⟩ ⟨Nat.zero_le _, Nat.zero_le _⟩ (fun r9 w9 hq9 => ?_)
        obtain ⟨rfl, rfl⟩ := hq9
        show P _ _ _ _ _ [_, _, _, _, _, _, _, _, _, _, _, _, _, _, _]
        refine st_lstore_n C (dk DX5_digest_1 14 rfl) (by decide) rfl rfl ?_
        refine st_iinc C (dk DX5_digest_1 15 rfl) rfl (iadd_ofInt _ (1) (1) (by decide)) (by decide) rfl ?_
        refine st_goto C (tgt := 76) (dk DX5_digest_1 16 rfl) (by decide) ?_
        exact ih (i + 1) _ _ (by omega) (up_nI hx) (by rw [hh]; exact hN_s _ _ _)
  exact loop n 0 _ _ (by omega) rfl (by rw [hN_0, dg6, htl]; rfl)
