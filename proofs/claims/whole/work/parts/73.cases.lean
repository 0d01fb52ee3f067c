/-! the law: a case a call -/
set_option maxHeartbeats 8000000 in
set_option maxRecDepth 100000 in
theorem lc_door {l : Launch} {G : wG} (hlt : l.stackTraces = false) {L : Nat} {xs : Nat → Int32} {P : PT} {nm9 : String} {b K p q1 q2 o o1 o2 v v1 : Nat} {u u1 u2 : Nat → Nat} {t t1 t2 t3 t4 y y1 M : Nat} {A : Nat → Nat} {e : Nat} (C : Cv l G RL cL_law 9 nm9 room_1 (exL b L xs) P) {s : mS} {k : Nat} {pp : Nat → mS} {n : Nat} {tx : Nat → Nat} {ns : Nat → Int32} {lk : Nat → Int32} {ld : Nat → Int32} {os : Nat → Int32} {olk : Nat → Int32} {old : Nat → Int32} {nx : Int32} {sz : Int32} {rs : Nat → Nat → Int32} {rl : Nat → Nat → Int32} {rd : Nat → Nat → Int32} {zz : Int32} {rc : Int32} {en : Nat → Int32} {sn : Nat → Int64} {nd : Nat → Int32} {ln : Nat → Int32} {tl : Int32} {ce : Int32} {la : Int32} {cd : Nat → Int32} {ke : Int32} {ty : Int32} {th : Int32} {ap : Int32} {ft : Int32} {bo : Int32} {ot : Int32} {il : Int32} {f0 : Nat → Int32} {f1 : Nat → Int32} {f2 : Nat → Int32} {f3 : Nat → Int32} {f4 : Nat → Int32} {qu : Nat → Int32} {fr : Nat → Int32} {by9 : Nat → Int32} {fa : Nat → Int32} {fs : Nat → Int32} {og : Nat → Int64} (hI : INV s k pp n tx ns lk ld nx sz rs rl rd tl cd ke ty il f0 f2 f3 qu fr by9 fa fs) {x a1 a2 : Int32} {tt : Nat} (htt : tt < 512) (h1 : vp_in (x + 1) L) (h2 : vp_in (x + 2) L) (e1 : xs (x + 1).toNatClampNeg = a1) (e2 : xs (x + 2).toNatClampNeg = a2) (hk9 : LH P G b K p q1 q2 o o1 o2 v v1 u u1 u2 t t1 t2 t3 t4 y y1 M A e (46 + (tt + 1)) (24379 + 6 * (tt + 1)) x) : P (46 + tt) (24379 + 6 * tt) 140 [(0, .ref b), (1, .ref K), (2, .ref M), (3, .ref e), (4, .int x)] [] [(K, ob 4 (kF p o v t y)), (p, ob 0 (cR q1 q2 ns)), (q1, aI G 15 lk), (q2, aI G 16 ld), (o, ob 0 (cR o1 o2 os)), (o1, aI G 15 olk), (o2, aI G 16 old), (v, ob 1 (vF v1 nx sz)), (v1, aQ G 6 (fun k => some (u k))), (u 0, ob 0 (cR (u1 0) (u2 0) (rs 0))), (u1 0, aI G 15 (rl 0)), (u2 0, aI G 16 (rd 0)), (u 1, ob 0 (cR (u1 1) (u2 1) (rs 1))), (u1 1, aI G 15 (rl 1)), (u2 1, aI G 16 (rd 1)), (u 2, ob 0 (cR (u1 2) (u2 2) (rs 2))), (u1 2, aI G 15 (rl 2)), (u2 2, aI G 16 (rd 2)), (u 3, ob 0 (cR (u1 3) (u2 3) (rs 3))), (u1 3, aI G 15 (rl 3)), (u2 3, aI G 16 (rd 3)), (u 4, ob 0 (cR (u1 4) (u2 4) (rs 4))), (u1 4, aI G 15 (rl 4)), (u2 4, aI G 16 (rd 4)), (u 5, ob 0 (cR (u1 5) (u2 5) (rs 5))), (u1 5, aI G 15 (rl 5)), (u2 5, aI G 16 (rd 5)), (t, ob 2 (sF t1 t2 t3 t4 zz rc)), (t1, aI G 4624 en), (t2, aJ G 256 sn), (t3, aI G 16 nd), (t4, aI G 16 ln), (y, ob 3 (tF y1 tl ce la)), (y1, aI G 60 cd), (M, ob 5 (mF A ke ty th ap ft bo ot il)), (A 0, aI G 53 f0), (A 1, aI G 53 f1), (A 2, aI G 318 f2), (A 3, aI G 60 f3), (A 4, aI G 48 f4), (A 5, aI G 4624 qu), (A 6, aI G 4624 fr), (A 7, aI G 4624 by9), (A 8, aI G 4624 fa), (A 9, aI G 16 fs), (e, aJ G 1 og)] := by
  obtain ⟨hC, hSv, htl, hn, hcd, hf, hp, hke, hty, ht, hil⟩ := hI
  have hok := hC.1
  have hk : k ≤ 6 := by obtain ⟨j9, -, -, -, h9, -⟩ := hSv; exact h9
  have hsz : sz = nI k := by obtain ⟨j9, -, -, h9, -⟩ := hSv; exact h9
  have hr0 : 46 + tt ≤ room_1.cells ∧ 24379 + 6 * tt ≤ room_1.slots := ⟨by show _ ≤ 601024; omega, by show _ ≤ 7293034; omega⟩
  have hr1 : 46 + tt + 1 ≤ room_1.cells ∧ 24379 + 6 * tt + 6 ≤ room_1.slots := ⟨by show _ ≤ 601024; omega, by show _ ≤ 7293034; omega⟩
  refine st_aload_n C.cx (dk DL_law_0 25 rfl) rfl ?_
  refine st_aload_n C.cx (dk DL_law_0 26 rfl) rfl ?_
  refine st_iload C.cx (dk DL_law_0 27 rfl) rfl ?_
  refine st_iconst C.cx (v := 1) (dk DL_law_0 28 rfl) (by decide) ?_
  refine st_iadd C.cx (dk DL_law_0 29 rfl) ?_
  refine st_sld C (dk DL_law_0 30 rfl) h1 e1 ?_
  refine st_aload_n C.cx (dk DL_law_0 31 rfl) rfl ?_
  refine st_iload C.cx (dk DL_law_0 32 rfl) rfl ?_
  refine st_iconst C.cx (v := 2) (dk DL_law_0 33 rfl) (by decide) ?_
  refine st_iadd C.cx (dk DL_law_0 34 rfl) ?_
  refine st_sld C (dk DL_law_0 35 rfl) h2 e2 ?_
  refine st_aload_n C.cx (dk DL_law_0 36 rfl) rfl ?_
  refine st_callH (fun _ _ _ _ h => h.1) C (kw_door l G hlt hC hSv) mw_L_door ms_L_door mq_RL_74 (dk DL_law_0 37 rfl) [0, 1, 2, 3, 7, 8, 9, 10, 11, 12, 13, 14, 15, 16, 17, 18, 19, 20, 21, 22, 23, 24, 25, 26, 45] (hC_cons rfl (hC_cons rfl (hC_cons rfl (hC_cons rfl (hC_cons rfl (hC_cons rfl (hC_cons rfl (hC_cons rfl (hC_cons rfl (hC_cons rfl (hC_cons rfl (hC_cons rfl (hC_cons rfl (hC_cons rfl (hC_cons rfl (hC_cons rfl (hC_cons rfl (hC_cons rfl (hC_cons rfl (hC_cons rfl (hC_cons rfl (hC_cons rfl (hC_cons rfl (hC_cons rfl (hC_cons rfl (hC_nil)))))))))))))))))))))))))) (by decide +kernel) rfl rfl (Nat.le_of_ble_eq_true rfl) ⟨Nat.le_of_ble_eq_true rfl, Nat.le_of_ble_eq_true rfl⟩ hr1 (fun r9 w9 v9 hq9 => ?_)
  obtain ⟨rfl, hu⟩ := hq9
  rcases hu with ⟨j, i, h_1, h_2, h_3, h_4, rfl, ns9, lk9, ld9, nx9, sz9, rs9, rl9, rd9, h_5, h_6, rfl⟩ | ⟨rfl, h_1, rfl⟩ | ⟨rfl, h_1, h_2, rfl⟩
  · simp only [put_cons, put_nil, List.set_cons_zero, List.set_cons_succ, List.append_nil]
    have qh_j : isN a1 14 := ⟨j, h_1, h_3⟩
    have qh_i : isN a2 5 := ⟨i, h_2, h_4⟩
    refine st_istore C.cx (dk DL_law_0 38 rfl) (by decide) rfl ?_
    refine st_aload_n C.cx (dk DL_law_0 39 rfl) rfl ?_
    refine st_aload_n C.cx (dk DL_law_1 0 rfl) rfl ?_
    refine st_iload C.cx (dk DL_law_1 1 rfl) rfl ?_
    refine st_iconst C.cx (v := 1) (dk DL_law_1 2 rfl) (by decide) ?_
    refine st_iadd C.cx (dk DL_law_1 3 rfl) ?_
    refine st_sld C (dk DL_law_1 4 rfl) h1 e1 ?_
    refine st_aload_n C.cx (dk DL_law_1 5 rfl) rfl ?_
    refine st_iload C.cx (dk DL_law_1 6 rfl) rfl ?_
    refine st_iconst C.cx (v := 2) (dk DL_law_1 7 rfl) (by decide) ?_
    refine st_iadd C.cx (dk DL_law_1 8 rfl) ?_
    refine st_sld C (dk DL_law_1 9 rfl) h2 e2 ?_
    refine st_cV C.cx (k_X6_door l G hf hke hk hp) mf_X6_door mi_X6_door ml_RL_79 (dk DL_law_1 10 rfl) [34, 37, 35] rfl rfl rfl rfl (Nat.le_of_ble_eq_true rfl) rfl rfl ⟨Nat.le_of_ble_eq_true rfl, Nat.le_of_ble_eq_true rfl⟩ hr1 (fun r8 w8 hq8 => ?_)
    rcases hq8 with ⟨g_1, rfl, rfl⟩ | ⟨g_1, g_2, rfl, rfl⟩ | ⟨jr, ir, g_1, g_2, g_3, g_4, rfl, f09r, f29r, g_5, g_6, rfl⟩
    · exfalso
      first | contradiction | omega
    · exfalso
      first | contradiction | omega
    · have qg_j : isN a1 14 := ⟨jr, g_1, g_3⟩
      have qg_i : isN a2 5 := ⟨ir, g_2, g_4⟩
      obtain rfl := (u_nI h_3 g_3 (by omega) (by omega)).symm
      obtain rfl := (u_nI h_4 g_4 (by omega) (by omega)).symm
      simp only [put_cons, put_nil, List.set_cons_zero, List.set_cons_succ, List.append_nil]
      refine st_istore C.cx (dk DL_law_1 11 rfl) (by decide) rfl ?_
      refine st_aload_n C.cx (dk DL_law_1 12 rfl) rfl ?_
      refine st_cV C.cx (k_X6_thrown l G) mf_X6_thrown mi_X6_thrown ml_RL_80 (dk DL_law_1 13 rfl) [34] rfl rfl rfl rfl (Nat.le_of_ble_eq_true rfl) rfl rfl ⟨Nat.le_of_ble_eq_true rfl, Nat.le_of_ble_eq_true rfl⟩ hr1 (fun r9 w9 hq9 => ?_)
      obtain ⟨rfl, rfl⟩ := hq9
      show P _ _ _ _ _ [_, _, _, _, _, _, _, _, _, _, _, _, _, _, _, _, _, _, _, _, _, _, _, _, _, _, _, _, _, _, _, _, _, _, _, _, _, _, _, _, _, _, _, _, _, _]
      refine st_iload C.cx (dk DL_law_1 14 rfl) rfl ?_
      refine st_icmp_eq C.cx (tgt := 188) (dk DL_law_1 15 rfl) (by decide) (fun c_183 => ?_) (fun c_183 => ?_)
      · refine st_iload C.cx (dk DL_law_1 18 rfl) rfl ?_
        refine st_if_ne C.cx (tgt := 205) (dk DL_law_1 19 rfl) (by decide) (fun c_190 => ?_) (fun c_190 => ?_)
        · exact absurd rfl c_190
        · refine st_aload_n C.cx (dk DL_law_1 20 rfl) rfl ?_
          refine st_iconst C.cx (v := 0) (dk DL_law_1 21 rfl) (by decide) ?_
          refine st_lald C.cx (dk DL_law_1 22 rfl) 45 rfl (by unfold vp_in; decide) ?_
          refine st_iload C.cx (dk DL_law_1 23 rfl) rfl ?_
          refine st_i2l C.cx (dk DL_law_1 24 rfl) ?_
          refine st_lcmp C.cx (dk DL_law_1 25 rfl) ?_
          refine st_if_eq C.cx (tgt := 205) (dk DL_law_1 26 rfl) (by decide) (fun c_200 => ?_) (fun c_200 => ?_)
          · refine st_goto C.cx (tgt := 1250) (dk DL_law_1 29 rfl) (by decide) ?_
            refine st_lv C.cx [0, 1, 2, 3, 4] rfl ?_
            refine st_wide C.cx (k' := 46 + (tt + 1)) (n' := 24379 + 6 * (tt + 1)) (by omega) (by omega) ?_
            exact hk9 (updS s (22 + j) i) (svK k) (svP s k pp) n tx ns9 lk9 ld9 os olk old nx9 sz9 rs9 rl9 rd9 zz rc en sn nd ln tl ce la cd (nI (svK k)) ty 0 ap ft bo ot 0 f09r f1 f29r f3 f4 qu fr by9 fa fs (vp_updL og 0 (Int32.toInt64 (nI (s (22 + j))))) ⟨h_5, h_6, htl, hn, hcd, g_5, g_6, rfl, hty, ht, Or.inl rfl⟩
          · exact absurd ((lg_cmp0 _ _).mpr rfl) c_200
      · exact absurd rfl c_183
  · simp only [put_cons, put_nil, List.set_cons_zero, List.set_cons_succ, List.append_nil]
    refine st_istore C.cx (dk DL_law_0 38 rfl) (by decide) rfl ?_
    refine st_aload_n C.cx (dk DL_law_0 39 rfl) rfl ?_
    refine st_aload_n C.cx (dk DL_law_1 0 rfl) rfl ?_
    refine st_iload C.cx (dk DL_law_1 1 rfl) rfl ?_
    refine st_iconst C.cx (v := 1) (dk DL_law_1 2 rfl) (by decide) ?_
    refine st_iadd C.cx (dk DL_law_1 3 rfl) ?_
    refine st_sld C (dk DL_law_1 4 rfl) h1 e1 ?_
    refine st_aload_n C.cx (dk DL_law_1 5 rfl) rfl ?_
    refine st_iload C.cx (dk DL_law_1 6 rfl) rfl ?_
    refine st_iconst C.cx (v := 2) (dk DL_law_1 7 rfl) (by decide) ?_
    refine st_iadd C.cx (dk DL_law_1 8 rfl) ?_
    refine st_sld C (dk DL_law_1 9 rfl) h2 e2 ?_
    refine st_cV C.cx (k_X6_door l G hf hke hk hp) mf_X6_door mi_X6_door ml_RL_79 (dk DL_law_1 10 rfl) [34, 37, 35] rfl rfl rfl rfl (Nat.le_of_ble_eq_true rfl) rfl rfl ⟨Nat.le_of_ble_eq_true rfl, Nat.le_of_ble_eq_true rfl⟩ hr1 (fun r8 w8 hq8 => ?_)
    rcases hq8 with ⟨g_1, rfl, rfl⟩ | ⟨g_1, g_2, rfl, rfl⟩ | ⟨jr, ir, g_1, g_2, g_3, g_4, rfl, f09r, f29r, g_5, g_6, rfl⟩
    · simp only [put_cons, put_nil, List.set_cons_zero, List.set_cons_succ, List.append_nil]
      refine st_istore C.cx (dk DL_law_1 11 rfl) (by decide) rfl ?_
      refine st_aload_n C.cx (dk DL_law_1 12 rfl) rfl ?_
      refine st_cV C.cx (k_X6_thrown l G) mf_X6_thrown mi_X6_thrown ml_RL_80 (dk DL_law_1 13 rfl) [34] rfl rfl rfl rfl (Nat.le_of_ble_eq_true rfl) rfl rfl ⟨Nat.le_of_ble_eq_true rfl, Nat.le_of_ble_eq_true rfl⟩ hr1 (fun r9 w9 hq9 => ?_)
      obtain ⟨rfl, rfl⟩ := hq9
      show P _ _ _ _ _ [_, _, _, _, _, _, _, _, _, _, _, _, _, _, _, _, _, _, _, _, _, _, _, _, _, _, _, _, _, _, _, _, _, _, _, _, _, _, _, _, _, _, _, _, _, _]
      refine st_iload C.cx (dk DL_law_1 14 rfl) rfl ?_
      refine st_icmp_eq C.cx (tgt := 188) (dk DL_law_1 15 rfl) (by decide) (fun c_183 => ?_) (fun c_183 => ?_)
      · refine st_iload C.cx (dk DL_law_1 18 rfl) rfl ?_
        refine st_if_ne C.cx (tgt := 205) (dk DL_law_1 19 rfl) (by decide) (fun c_190 => ?_) (fun c_190 => ?_)
        · refine st_goto C.cx (tgt := 1250) (dk DL_law_1 29 rfl) (by decide) ?_
          refine st_lv C.cx [0, 1, 2, 3, 4] rfl ?_
          refine st_wide C.cx (k' := 46 + (tt + 1)) (n' := 24379 + 6 * (tt + 1)) (by omega) (by omega) ?_
          exact hk9 s k pp n tx ns lk ld os olk old nx sz rs rl rd zz rc en sn nd ln tl ce la cd ke ty 1 ap ft bo ot il f0 f1 f2 f3 f4 qu fr by9 fa fs og ⟨hC, hSv, htl, hn, hcd, hf, hp, hke, hty, ht, hil⟩
        · exact absurd c_190 (by decide)
      · exact absurd rfl c_183
    · exfalso
      first | contradiction | omega
    · have qg_j : isN a1 14 := ⟨jr, g_1, g_3⟩
      have qg_i : isN a2 5 := ⟨ir, g_2, g_4⟩
      exfalso
      first | contradiction | omega
  · simp only [put_cons, put_nil, List.set_cons_zero, List.set_cons_succ, List.append_nil]
    refine st_istore C.cx (dk DL_law_0 38 rfl) (by decide) rfl ?_
    refine st_aload_n C.cx (dk DL_law_0 39 rfl) rfl ?_
    refine st_aload_n C.cx (dk DL_law_1 0 rfl) rfl ?_
    refine st_iload C.cx (dk DL_law_1 1 rfl) rfl ?_
    refine st_iconst C.cx (v := 1) (dk DL_law_1 2 rfl) (by decide) ?_
    refine st_iadd C.cx (dk DL_law_1 3 rfl) ?_
    refine st_sld C (dk DL_law_1 4 rfl) h1 e1 ?_
    refine st_aload_n C.cx (dk DL_law_1 5 rfl) rfl ?_
    refine st_iload C.cx (dk DL_law_1 6 rfl) rfl ?_
    refine st_iconst C.cx (v := 2) (dk DL_law_1 7 rfl) (by decide) ?_
    refine st_iadd C.cx (dk DL_law_1 8 rfl) ?_
    refine st_sld C (dk DL_law_1 9 rfl) h2 e2 ?_
    refine st_cV C.cx (k_X6_door l G hf hke hk hp) mf_X6_door mi_X6_door ml_RL_79 (dk DL_law_1 10 rfl) [34, 37, 35] rfl rfl rfl rfl (Nat.le_of_ble_eq_true rfl) rfl rfl ⟨Nat.le_of_ble_eq_true rfl, Nat.le_of_ble_eq_true rfl⟩ hr1 (fun r8 w8 hq8 => ?_)
    rcases hq8 with ⟨g_1, rfl, rfl⟩ | ⟨g_1, g_2, rfl, rfl⟩ | ⟨jr, ir, g_1, g_2, g_3, g_4, rfl, f09r, f29r, g_5, g_6, rfl⟩
    · exfalso
      first | contradiction | omega
    · simp only [put_cons, put_nil, List.set_cons_zero, List.set_cons_succ, List.append_nil]
      refine st_istore C.cx (dk DL_law_1 11 rfl) (by decide) rfl ?_
      refine st_aload_n C.cx (dk DL_law_1 12 rfl) rfl ?_
      refine st_cV C.cx (k_X6_thrown l G) mf_X6_thrown mi_X6_thrown ml_RL_80 (dk DL_law_1 13 rfl) [34] rfl rfl rfl rfl (Nat.le_of_ble_eq_true rfl) rfl rfl ⟨Nat.le_of_ble_eq_true rfl, Nat.le_of_ble_eq_true rfl⟩ hr1 (fun r9 w9 hq9 => ?_)
      obtain ⟨rfl, rfl⟩ := hq9
      show P _ _ _ _ _ [_, _, _, _, _, _, _, _, _, _, _, _, _, _, _, _, _, _, _, _, _, _, _, _, _, _, _, _, _, _, _, _, _, _, _, _, _, _, _, _, _, _, _, _, _, _]
      refine st_iload C.cx (dk DL_law_1 14 rfl) rfl ?_
      refine st_icmp_eq C.cx (tgt := 188) (dk DL_law_1 15 rfl) (by decide) (fun c_183 => ?_) (fun c_183 => ?_)
      · refine st_iload C.cx (dk DL_law_1 18 rfl) rfl ?_
        refine st_if_ne C.cx (tgt := 205) (dk DL_law_1 19 rfl) (by decide) (fun c_190 => ?_) (fun c_190 => ?_)
        · refine st_goto C.cx (tgt := 1250) (dk DL_law_1 29 rfl) (by decide) ?_
          refine st_lv C.cx [0, 1, 2, 3, 4] rfl ?_
          refine st_wide C.cx (k' := 46 + (tt + 1)) (n' := 24379 + 6 * (tt + 1)) (by omega) (by omega) ?_
          exact hk9 s k pp n tx ns lk ld os olk old nx sz rs rl rd zz rc en sn nd ln tl ce la cd ke ty 2 ap ft bo ot il f0 f1 f2 f3 f4 qu fr by9 fa fs og ⟨hC, hSv, htl, hn, hcd, hf, hp, hke, hty, ht, hil⟩
        · exact absurd c_190 (by decide)
      · exact absurd rfl c_183
    · have qg_j : isN a1 14 := ⟨jr, g_1, g_3⟩
      have qg_i : isN a2 5 := ⟨ir, g_2, g_4⟩
      exfalso
      first | contradiction | omega
set_option maxHeartbeats 8000000 in
set_option maxRecDepth 100000 in
theorem lc_key {l : Launch} {G : wG} (hlt : l.stackTraces = false) {L : Nat} {xs : Nat → Int32} {P : PT} {nm9 : String} {b K p q1 q2 o o1 o2 v v1 : Nat} {u u1 u2 : Nat → Nat} {t t1 t2 t3 t4 y y1 M : Nat} {A : Nat → Nat} {e : Nat} (C : Cv l G RL cL_law 9 nm9 room_1 (exL b L xs) P) {s : mS} {k : Nat} {pp : Nat → mS} {n : Nat} {tx : Nat → Nat} {ns : Nat → Int32} {lk : Nat → Int32} {ld : Nat → Int32} {os : Nat → Int32} {olk : Nat → Int32} {old : Nat → Int32} {nx : Int32} {sz : Int32} {rs : Nat → Nat → Int32} {rl : Nat → Nat → Int32} {rd : Nat → Nat → Int32} {zz : Int32} {rc : Int32} {en : Nat → Int32} {sn : Nat → Int64} {nd : Nat → Int32} {ln : Nat → Int32} {tl : Int32} {ce : Int32} {la : Int32} {cd : Nat → Int32} {ke : Int32} {ty : Int32} {th : Int32} {ap : Int32} {ft : Int32} {bo : Int32} {ot : Int32} {il : Int32} {f0 : Nat → Int32} {f1 : Nat → Int32} {f2 : Nat → Int32} {f3 : Nat → Int32} {f4 : Nat → Int32} {qu : Nat → Int32} {fr : Nat → Int32} {by9 : Nat → Int32} {fa : Nat → Int32} {fs : Nat → Int32} {og : Nat → Int64} (hI : INV s k pp n tx ns lk ld nx sz rs rl rd tl cd ke ty il f0 f2 f3 qu fr by9 fa fs) {x a1 a2 : Int32} {tt : Nat} (htt : tt < 512) (h1 : vp_in (x + 1) L) (h2 : vp_in (x + 2) L) (e1 : xs (x + 1).toNatClampNeg = a1) (e2 : xs (x + 2).toNatClampNeg = a2) (hk9 : LH P G b K p q1 q2 o o1 o2 v v1 u u1 u2 t t1 t2 t3 t4 y y1 M A e (46 + (tt + 1)) (24379 + 6 * (tt + 1)) x) : P (46 + tt) (24379 + 6 * tt) 208 [(0, .ref b), (1, .ref K), (2, .ref M), (3, .ref e), (4, .int x)] [] [(K, ob 4 (kF p o v t y)), (p, ob 0 (cR q1 q2 ns)), (q1, aI G 15 lk), (q2, aI G 16 ld), (o, ob 0 (cR o1 o2 os)), (o1, aI G 15 olk), (o2, aI G 16 old), (v, ob 1 (vF v1 nx sz)), (v1, aQ G 6 (fun k => some (u k))), (u 0, ob 0 (cR (u1 0) (u2 0) (rs 0))), (u1 0, aI G 15 (rl 0)), (u2 0, aI G 16 (rd 0)), (u 1, ob 0 (cR (u1 1) (u2 1) (rs 1))), (u1 1, aI G 15 (rl 1)), (u2 1, aI G 16 (rd 1)), (u 2, ob 0 (cR (u1 2) (u2 2) (rs 2))), (u1 2, aI G 15 (rl 2)), (u2 2, aI G 16 (rd 2)), (u 3, ob 0 (cR (u1 3) (u2 3) (rs 3))), (u1 3, aI G 15 (rl 3)), (u2 3, aI G 16 (rd 3)), (u 4, ob 0 (cR (u1 4) (u2 4) (rs 4))), (u1 4, aI G 15 (rl 4)), (u2 4, aI G 16 (rd 4)), (u 5, ob 0 (cR (u1 5) (u2 5) (rs 5))), (u1 5, aI G 15 (rl 5)), (u2 5, aI G 16 (rd 5)), (t, ob 2 (sF t1 t2 t3 t4 zz rc)), (t1, aI G 4624 en), (t2, aJ G 256 sn), (t3, aI G 16 nd), (t4, aI G 16 ln), (y, ob 3 (tF y1 tl ce la)), (y1, aI G 60 cd), (M, ob 5 (mF A ke ty th ap ft bo ot il)), (A 0, aI G 53 f0), (A 1, aI G 53 f1), (A 2, aI G 318 f2), (A 3, aI G 60 f3), (A 4, aI G 48 f4), (A 5, aI G 4624 qu), (A 6, aI G 4624 fr), (A 7, aI G 4624 by9), (A 8, aI G 4624 fa), (A 9, aI G 16 fs), (e, aJ G 1 og)] := by
  obtain ⟨hC, hSv, htl, hn, hcd, hf, hp, hke, hty, ht, hil⟩ := hI
  have hok := hC.1
  have hk : k ≤ 6 := by obtain ⟨j9, -, -, -, h9, -⟩ := hSv; exact h9
  have hsz : sz = nI k := by obtain ⟨j9, -, -, h9, -⟩ := hSv; exact h9
  have hr0 : 46 + tt ≤ room_1.cells ∧ 24379 + 6 * tt ≤ room_1.slots := ⟨by show _ ≤ 601024; omega, by show _ ≤ 7293034; omega⟩
  have hr1 : 46 + tt + 1 ≤ room_1.cells ∧ 24379 + 6 * tt + 6 ≤ room_1.slots := ⟨by show _ ≤ 601024; omega, by show _ ≤ 7293034; omega⟩
  refine st_aload_n C.cx (dk DL_law_1 30 rfl) rfl ?_
  refine st_aload_n C.cx (dk DL_law_1 31 rfl) rfl ?_
  refine st_iload C.cx (dk DL_law_1 32 rfl) rfl ?_
  refine st_iconst C.cx (v := 1) (dk DL_law_1 33 rfl) (by decide) ?_
  refine st_iadd C.cx (dk DL_law_1 34 rfl) ?_
  refine st_sld C (dk DL_law_1 35 rfl) h1 e1 ?_
  refine st_aload_n C.cx (dk DL_law_1 36 rfl) rfl ?_
  refine st_iload C.cx (dk DL_law_1 37 rfl) rfl ?_
  refine st_iconst C.cx (v := 2) (dk DL_law_1 38 rfl) (by decide) ?_
  refine st_iadd C.cx (dk DL_law_1 39 rfl) ?_
  refine st_sld C (dk DL_law_2 0 rfl) h2 e2 ?_
  refine st_aload_n C.cx (dk DL_law_2 1 rfl) rfl ?_
  refine st_callH (fun _ _ _ _ h => h.1) C (kw_key l G hlt hC hSv) mw_L_key ms_L_key mq_RL_83 (dk DL_law_2 2 rfl) [0, 1, 2, 3, 7, 8, 9, 10, 11, 12, 13, 14, 15, 16, 17, 18, 19, 20, 21, 22, 23, 24, 25, 26, 45] (hC_cons rfl (hC_cons rfl (hC_cons rfl (hC_cons rfl (hC_cons rfl (hC_cons rfl (hC_cons rfl (hC_cons rfl (hC_cons rfl (hC_cons rfl (hC_cons rfl (hC_cons rfl (hC_cons rfl (hC_cons rfl (hC_cons rfl (hC_cons rfl (hC_cons rfl (hC_cons rfl (hC_cons rfl (hC_cons rfl (hC_cons rfl (hC_cons rfl (hC_cons rfl (hC_cons rfl (hC_cons rfl (hC_nil)))))))))))))))))))))))))) (by decide +kernel) rfl rfl (Nat.le_of_ble_eq_true rfl) ⟨Nat.le_of_ble_eq_true rfl, Nat.le_of_ble_eq_true rfl⟩ hr1 (fun r9 w9 v9 hq9 => ?_)
  obtain ⟨rfl, hu⟩ := hq9
  rcases hu with ⟨j, i, h_1, h_2, h_3, h_4, h_5, rfl, ns9, lk9, ld9, nx9, sz9, rs9, rl9, rd9, h_6, h_7, rfl⟩ | ⟨rfl, h_1, rfl⟩ | ⟨rfl, h_1, h_2, rfl⟩ | ⟨rfl, j, i, h_1, h_2, h_3, h_4, h_5, rfl⟩
  · simp only [put_cons, put_nil, List.set_cons_zero, List.set_cons_succ, List.append_nil]
    have qh_j : isN a1 15 := ⟨j, h_1, h_3⟩
    have qh_i : isN a2 5 := ⟨i, h_2, h_4⟩
    refine st_istore C.cx (dk DL_law_2 3 rfl) (by decide) rfl ?_
    refine st_aload_n C.cx (dk DL_law_2 4 rfl) rfl ?_
    refine st_aload_n C.cx (dk DL_law_2 5 rfl) rfl ?_
    refine st_iload C.cx (dk DL_law_2 6 rfl) rfl ?_
    refine st_iconst C.cx (v := 1) (dk DL_law_2 7 rfl) (by decide) ?_
    refine st_iadd C.cx (dk DL_law_2 8 rfl) ?_
    refine st_sld C (dk DL_law_2 9 rfl) h1 e1 ?_
    refine st_aload_n C.cx (dk DL_law_2 10 rfl) rfl ?_
    refine st_iload C.cx (dk DL_law_2 11 rfl) rfl ?_
    refine st_iconst C.cx (v := 2) (dk DL_law_2 12 rfl) (by decide) ?_
    refine st_iadd C.cx (dk DL_law_2 13 rfl) ?_
    refine st_sld C (dk DL_law_2 14 rfl) h2 e2 ?_
    refine st_cV C.cx (k_X6_key l G hf hke hk hp hok) mf_X6_key mi_X6_key ml_RL_85 (dk DL_law_2 15 rfl) [34, 37, 35] rfl rfl rfl rfl (Nat.le_of_ble_eq_true rfl) rfl rfl ⟨Nat.le_of_ble_eq_true rfl, Nat.le_of_ble_eq_true rfl⟩ hr1 (fun r8 w8 hq8 => ?_)
    rcases hq8 with ⟨g_1, rfl, rfl⟩ | ⟨g_1, g_2, rfl, rfl⟩ | ⟨jr, ir, g_1, g_2, g_3, g_4, g_5, rfl, rfl⟩ | ⟨jr, ir, g_1, g_2, g_3, g_4, g_5, rfl, f09r, f29r, g_6, g_7, rfl⟩
    · exfalso
      first | contradiction | omega
    · exfalso
      first | contradiction | omega
    · have qg_j : isN a1 15 := ⟨jr, g_1, g_3⟩
      have qg_i : isN a2 5 := ⟨ir, g_2, g_4⟩
      obtain rfl := (u_nI h_3 g_3 (by omega) (by omega)).symm
      obtain rfl := (u_nI h_4 g_4 (by omega) (by omega)).symm
      exfalso
      first | contradiction | omega
    · have qg_j : isN a1 15 := ⟨jr, g_1, g_3⟩
      have qg_i : isN a2 5 := ⟨ir, g_2, g_4⟩
      obtain rfl := (u_nI h_3 g_3 (by omega) (by omega)).symm
      obtain rfl := (u_nI h_4 g_4 (by omega) (by omega)).symm
      simp only [put_cons, put_nil, List.set_cons_zero, List.set_cons_succ, List.append_nil]
      refine st_istore C.cx (dk DL_law_2 16 rfl) (by decide) rfl ?_
      refine st_aload_n C.cx (dk DL_law_2 17 rfl) rfl ?_
      refine st_cV C.cx (k_X6_thrown l G) mf_X6_thrown mi_X6_thrown ml_RL_80 (dk DL_law_2 18 rfl) [34] rfl rfl rfl rfl (Nat.le_of_ble_eq_true rfl) rfl rfl ⟨Nat.le_of_ble_eq_true rfl, Nat.le_of_ble_eq_true rfl⟩ hr1 (fun r9 w9 hq9 => ?_)
      obtain ⟨rfl, rfl⟩ := hq9
      show P _ _ _ _ _ [_, _, _, _, _, _, _, _, _, _, _, _, _, _, _, _, _, _, _, _, _, _, _, _, _, _, _, _, _, _, _, _, _, _, _, _, _, _, _, _, _, _, _, _, _, _]
      refine st_iload C.cx (dk DL_law_2 19 rfl) rfl ?_
      refine st_icmp_eq C.cx (tgt := 256) (dk DL_law_2 20 rfl) (by decide) (fun c_251 => ?_) (fun c_251 => ?_)
      · refine st_iload C.cx (dk DL_law_2 23 rfl) rfl ?_
        refine st_if_ne C.cx (tgt := 273) (dk DL_law_2 24 rfl) (by decide) (fun c_258 => ?_) (fun c_258 => ?_)
        · exact absurd rfl c_258
        · refine st_aload_n C.cx (dk DL_law_2 25 rfl) rfl ?_
          refine st_iconst C.cx (v := 0) (dk DL_law_2 26 rfl) (by decide) ?_
          refine st_lald C.cx (dk DL_law_2 27 rfl) 45 rfl (by unfold vp_in; decide) ?_
          refine st_iload C.cx (dk DL_law_2 28 rfl) rfl ?_
          refine st_i2l C.cx (dk DL_law_2 29 rfl) ?_
          refine st_lcmp C.cx (dk DL_law_2 30 rfl) ?_
          refine st_if_eq C.cx (tgt := 273) (dk DL_law_2 31 rfl) (by decide) (fun c_268 => ?_) (fun c_268 => ?_)
          · refine st_goto C.cx (tgt := 1250) (dk DL_law_2 34 rfl) (by decide) ?_
            refine st_lv C.cx [0, 1, 2, 3, 4] rfl ?_
            refine st_wide C.cx (k' := 46 + (tt + 1)) (n' := 24379 + 6 * (tt + 1)) (by omega) (by omega) ?_
            exact hk9 (updS s (6 + j) i) (svK k) (svP s k pp) n tx ns9 lk9 ld9 os olk old nx9 sz9 rs9 rl9 rd9 zz rc en sn nd ln tl ce la cd (nI (svK k)) ty 0 ap ft bo ot 0 f09r f1 f29r f3 f4 qu fr by9 fa fs (vp_updL og 0 (Int32.toInt64 (nI (s (6 + j))))) ⟨h_6, h_7, htl, hn, hcd, g_6, g_7, rfl, hty, ht, Or.inl rfl⟩
          · exact absurd ((lg_cmp0 _ _).mpr rfl) c_268
      · exact absurd rfl c_251
  · simp only [put_cons, put_nil, List.set_cons_zero, List.set_cons_succ, List.append_nil]
    refine st_istore C.cx (dk DL_law_2 3 rfl) (by decide) rfl ?_
    refine st_aload_n C.cx (dk DL_law_2 4 rfl) rfl ?_
    refine st_aload_n C.cx (dk DL_law_2 5 rfl) rfl ?_
    refine st_iload C.cx (dk DL_law_2 6 rfl) rfl ?_
    refine st_iconst C.cx (v := 1) (dk DL_law_2 7 rfl) (by decide) ?_
    refine st_iadd C.cx (dk DL_law_2 8 rfl) ?_
    refine st_sld C (dk DL_law_2 9 rfl) h1 e1 ?_
    refine st_aload_n C.cx (dk DL_law_2 10 rfl) rfl ?_
    refine st_iload C.cx (dk DL_law_2 11 rfl) rfl ?_
    refine st_iconst C.cx (v := 2) (dk DL_law_2 12 rfl) (by decide) ?_
    refine st_iadd C.cx (dk DL_law_2 13 rfl) ?_
    refine st_sld C (dk DL_law_2 14 rfl) h2 e2 ?_
    refine st_cV C.cx (k_X6_key l G hf hke hk hp hok) mf_X6_key mi_X6_key ml_RL_85 (dk DL_law_2 15 rfl) [34, 37, 35] rfl rfl rfl rfl (Nat.le_of_ble_eq_true rfl) rfl rfl ⟨Nat.le_of_ble_eq_true rfl, Nat.le_of_ble_eq_true rfl⟩ hr1 (fun r8 w8 hq8 => ?_)
    rcases hq8 with ⟨g_1, rfl, rfl⟩ | ⟨g_1, g_2, rfl, rfl⟩ | ⟨jr, ir, g_1, g_2, g_3, g_4, g_5, rfl, rfl⟩ | ⟨jr, ir, g_1, g_2, g_3, g_4, g_5, rfl, f09r, f29r, g_6, g_7, rfl⟩
    · simp only [put_cons, put_nil, List.set_cons_zero, List.set_cons_succ, List.append_nil]
      refine st_istore C.cx (dk DL_law_2 16 rfl) (by decide) rfl ?_
      refine st_aload_n C.cx (dk DL_law_2 17 rfl) rfl ?_
      refine st_cV C.cx (k_X6_thrown l G) mf_X6_thrown mi_X6_thrown ml_RL_80 (dk DL_law_2 18 rfl) [34] rfl rfl rfl rfl (Nat.le_of_ble_eq_true rfl) rfl rfl ⟨Nat.le_of_ble_eq_true rfl, Nat.le_of_ble_eq_true rfl⟩ hr1 (fun r9 w9 hq9 => ?_)
      obtain ⟨rfl, rfl⟩ := hq9
      show P _ _ _ _ _ [_, _, _, _, _, _, _, _, _, _, _, _, _, _, _, _, _, _, _, _, _, _, _, _, _, _, _, _, _, _, _, _, _, _, _, _, _, _, _, _, _, _, _, _, _, _]
      refine st_iload C.cx (dk DL_law_2 19 rfl) rfl ?_
      refine st_icmp_eq C.cx (tgt := 256) (dk DL_law_2 20 rfl) (by decide) (fun c_251 => ?_) (fun c_251 => ?_)
      · refine st_iload C.cx (dk DL_law_2 23 rfl) rfl ?_
        refine st_if_ne C.cx (tgt := 273) (dk DL_law_2 24 rfl) (by decide) (fun c_258 => ?_) (fun c_258 => ?_)
        · refine st_goto C.cx (tgt := 1250) (dk DL_law_2 34 rfl) (by decide) ?_
          refine st_lv C.cx [0, 1, 2, 3, 4] rfl ?_
          refine st_wide C.cx (k' := 46 + (tt + 1)) (n' := 24379 + 6 * (tt + 1)) (by omega) (by omega) ?_
          exact hk9 s k pp n tx ns lk ld os olk old nx sz rs rl rd zz rc en sn nd ln tl ce la cd ke ty 1 ap ft bo ot il f0 f1 f2 f3 f4 qu fr by9 fa fs og ⟨hC, hSv, htl, hn, hcd, hf, hp, hke, hty, ht, hil⟩
        · exact absurd c_258 (by decide)
      · exact absurd rfl c_251
    · exfalso
      first | contradiction | omega
    · have qg_j : isN a1 15 := ⟨jr, g_1, g_3⟩
      have qg_i : isN a2 5 := ⟨ir, g_2, g_4⟩
      exfalso
      first | contradiction | omega
    · have qg_j : isN a1 15 := ⟨jr, g_1, g_3⟩
      have qg_i : isN a2 5 := ⟨ir, g_2, g_4⟩
      exfalso
      first | contradiction | omega
  · simp only [put_cons, put_nil, List.set_cons_zero, List.set_cons_succ, List.append_nil]
    refine st_istore C.cx (dk DL_law_2 3 rfl) (by decide) rfl ?_
    refine st_aload_n C.cx (dk DL_law_2 4 rfl) rfl ?_
    refine st_aload_n C.cx (dk DL_law_2 5 rfl) rfl ?_
    refine st_iload C.cx (dk DL_law_2 6 rfl) rfl ?_
    refine st_iconst C.cx (v := 1) (dk DL_law_2 7 rfl) (by decide) ?_
    refine st_iadd C.cx (dk DL_law_2 8 rfl) ?_
    refine st_sld C (dk DL_law_2 9 rfl) h1 e1 ?_
    refine st_aload_n C.cx (dk DL_law_2 10 rfl) rfl ?_
    refine st_iload C.cx (dk DL_law_2 11 rfl) rfl ?_
    refine st_iconst C.cx (v := 2) (dk DL_law_2 12 rfl) (by decide) ?_
    refine st_iadd C.cx (dk DL_law_2 13 rfl) ?_
    refine st_sld C (dk DL_law_2 14 rfl) h2 e2 ?_
    refine st_cV C.cx (k_X6_key l G hf hke hk hp hok) mf_X6_key mi_X6_key ml_RL_85 (dk DL_law_2 15 rfl) [34, 37, 35] rfl rfl rfl rfl (Nat.le_of_ble_eq_true rfl) rfl rfl ⟨Nat.le_of_ble_eq_true rfl, Nat.le_of_ble_eq_true rfl⟩ hr1 (fun r8 w8 hq8 => ?_)
    rcases hq8 with ⟨g_1, rfl, rfl⟩ | ⟨g_1, g_2, rfl, rfl⟩ | ⟨jr, ir, g_1, g_2, g_3, g_4, g_5, rfl, rfl⟩ | ⟨jr, ir, g_1, g_2, g_3, g_4, g_5, rfl, f09r, f29r, g_6, g_7, rfl⟩
    · exfalso
      first | contradiction | omega
    · simp only [put_cons, put_nil, List.set_cons_zero, List.set_cons_succ, List.append_nil]
      refine st_istore C.cx (dk DL_law_2 16 rfl) (by decide) rfl ?_
      refine st_aload_n C.cx (dk DL_law_2 17 rfl) rfl ?_
      refine st_cV C.cx (k_X6_thrown l G) mf_X6_thrown mi_X6_thrown ml_RL_80 (dk DL_law_2 18 rfl) [34] rfl rfl rfl rfl (Nat.le_of_ble_eq_true rfl) rfl rfl ⟨Nat.le_of_ble_eq_true rfl, Nat.le_of_ble_eq_true rfl⟩ hr1 (fun r9 w9 hq9 => ?_)
      obtain ⟨rfl, rfl⟩ := hq9
      show P _ _ _ _ _ [_, _, _, _, _, _, _, _, _, _, _, _, _, _, _, _, _, _, _, _, _, _, _, _, _, _, _, _, _, _, _, _, _, _, _, _, _, _, _, _, _, _, _, _, _, _]
      refine st_iload C.cx (dk DL_law_2 19 rfl) rfl ?_
      refine st_icmp_eq C.cx (tgt := 256) (dk DL_law_2 20 rfl) (by decide) (fun c_251 => ?_) (fun c_251 => ?_)
      · refine st_iload C.cx (dk DL_law_2 23 rfl) rfl ?_
        refine st_if_ne C.cx (tgt := 273) (dk DL_law_2 24 rfl) (by decide) (fun c_258 => ?_) (fun c_258 => ?_)
        · refine st_goto C.cx (tgt := 1250) (dk DL_law_2 34 rfl) (by decide) ?_
          refine st_lv C.cx [0, 1, 2, 3, 4] rfl ?_
          refine st_wide C.cx (k' := 46 + (tt + 1)) (n' := 24379 + 6 * (tt + 1)) (by omega) (by omega) ?_
          exact hk9 s k pp n tx ns lk ld os olk old nx sz rs rl rd zz rc en sn nd ln tl ce la cd ke ty 2 ap ft bo ot il f0 f1 f2 f3 f4 qu fr by9 fa fs og ⟨hC, hSv, htl, hn, hcd, hf, hp, hke, hty, ht, hil⟩
        · exact absurd c_258 (by decide)
      · exact absurd rfl c_251
    · have qg_j : isN a1 15 := ⟨jr, g_1, g_3⟩
      have qg_i : isN a2 5 := ⟨ir, g_2, g_4⟩
      exfalso
      first | contradiction | omega
    · have qg_j : isN a1 15 := ⟨jr, g_1, g_3⟩
      have qg_i : isN a2 5 := ⟨ir, g_2, g_4⟩
      exfalso
      first | contradiction | omega
  · simp only [put_cons, put_nil, List.set_cons_zero, List.set_cons_succ, List.append_nil]
    have qh_j : isN a1 15 := ⟨j, h_1, h_3⟩
    have qh_i : isN a2 5 := ⟨i, h_2, h_4⟩
    refine st_istore C.cx (dk DL_law_2 3 rfl) (by decide) rfl ?_
    refine st_aload_n C.cx (dk DL_law_2 4 rfl) rfl ?_
    refine st_aload_n C.cx (dk DL_law_2 5 rfl) rfl ?_
    refine st_iload C.cx (dk DL_law_2 6 rfl) rfl ?_
    refine st_iconst C.cx (v := 1) (dk DL_law_2 7 rfl) (by decide) ?_
    refine st_iadd C.cx (dk DL_law_2 8 rfl) ?_
    refine st_sld C (dk DL_law_2 9 rfl) h1 e1 ?_
    refine st_aload_n C.cx (dk DL_law_2 10 rfl) rfl ?_
    refine st_iload C.cx (dk DL_law_2 11 rfl) rfl ?_
    refine st_iconst C.cx (v := 2) (dk DL_law_2 12 rfl) (by decide) ?_
    refine st_iadd C.cx (dk DL_law_2 13 rfl) ?_
    refine st_sld C (dk DL_law_2 14 rfl) h2 e2 ?_
    refine st_cV C.cx (k_X6_key l G hf hke hk hp hok) mf_X6_key mi_X6_key ml_RL_85 (dk DL_law_2 15 rfl) [34, 37, 35] rfl rfl rfl rfl (Nat.le_of_ble_eq_true rfl) rfl rfl ⟨Nat.le_of_ble_eq_true rfl, Nat.le_of_ble_eq_true rfl⟩ hr1 (fun r8 w8 hq8 => ?_)
    rcases hq8 with ⟨g_1, rfl, rfl⟩ | ⟨g_1, g_2, rfl, rfl⟩ | ⟨jr, ir, g_1, g_2, g_3, g_4, g_5, rfl, rfl⟩ | ⟨jr, ir, g_1, g_2, g_3, g_4, g_5, rfl, f09r, f29r, g_6, g_7, rfl⟩
    · exfalso
      first | contradiction | omega
    · exfalso
      first | contradiction | omega
    · have qg_j : isN a1 15 := ⟨jr, g_1, g_3⟩
      have qg_i : isN a2 5 := ⟨ir, g_2, g_4⟩
      obtain rfl := (u_nI h_3 g_3 (by omega) (by omega)).symm
      obtain rfl := (u_nI h_4 g_4 (by omega) (by omega)).symm
      simp only [put_cons, put_nil, List.set_cons_zero, List.set_cons_succ, List.append_nil]
      refine st_istore C.cx (dk DL_law_2 16 rfl) (by decide) rfl ?_
      refine st_aload_n C.cx (dk DL_law_2 17 rfl) rfl ?_
      refine st_cV C.cx (k_X6_thrown l G) mf_X6_thrown mi_X6_thrown ml_RL_80 (dk DL_law_2 18 rfl) [34] rfl rfl rfl rfl (Nat.le_of_ble_eq_true rfl) rfl rfl ⟨Nat.le_of_ble_eq_true rfl, Nat.le_of_ble_eq_true rfl⟩ hr1 (fun r9 w9 hq9 => ?_)
      obtain ⟨rfl, rfl⟩ := hq9
      show P _ _ _ _ _ [_, _, _, _, _, _, _, _, _, _, _, _, _, _, _, _, _, _, _, _, _, _, _, _, _, _, _, _, _, _, _, _, _, _, _, _, _, _, _, _, _, _, _, _, _, _]
      refine st_iload C.cx (dk DL_law_2 19 rfl) rfl ?_
      refine st_icmp_eq C.cx (tgt := 256) (dk DL_law_2 20 rfl) (by decide) (fun c_251 => ?_) (fun c_251 => ?_)
      · refine st_iload C.cx (dk DL_law_2 23 rfl) rfl ?_
        refine st_if_ne C.cx (tgt := 273) (dk DL_law_2 24 rfl) (by decide) (fun c_258 => ?_) (fun c_258 => ?_)
        · refine st_goto C.cx (tgt := 1250) (dk DL_law_2 34 rfl) (by decide) ?_
          refine st_lv C.cx [0, 1, 2, 3, 4] rfl ?_
          refine st_wide C.cx (k' := 46 + (tt + 1)) (n' := 24379 + 6 * (tt + 1)) (by omega) (by omega) ?_
          exact hk9 s k pp n tx ns lk ld os olk old nx sz rs rl rd zz rc en sn nd ln tl ce la cd ke ty 3 ap ft bo ot il f0 f1 f2 f3 f4 qu fr by9 fa fs og ⟨hC, hSv, htl, hn, hcd, hf, hp, hke, hty, ht, hil⟩
        · exact absurd c_258 (by decide)
      · exact absurd rfl c_251
    · have qg_j : isN a1 15 := ⟨jr, g_1, g_3⟩
      have qg_i : isN a2 5 := ⟨ir, g_2, g_4⟩
      obtain rfl := (u_nI h_3 g_3 (by omega) (by omega)).symm
      obtain rfl := (u_nI h_4 g_4 (by omega) (by omega)).symm
      exfalso
      first | contradiction | omega
set_option maxHeartbeats 8000000 in
set_option maxRecDepth 100000 in
theorem lc_ladder {l : Launch} {G : wG} (hlt : l.stackTraces = false) {L : Nat} {xs : Nat → Int32} {P : PT} {nm9 : String} {b K p q1 q2 o o1 o2 v v1 : Nat} {u u1 u2 : Nat → Nat} {t t1 t2 t3 t4 y y1 M : Nat} {A : Nat → Nat} {e : Nat} (C : Cv l G RL cL_law 9 nm9 room_1 (exL b L xs) P) {s : mS} {k : Nat} {pp : Nat → mS} {n : Nat} {tx : Nat → Nat} {ns : Nat → Int32} {lk : Nat → Int32} {ld : Nat → Int32} {os : Nat → Int32} {olk : Nat → Int32} {old : Nat → Int32} {nx : Int32} {sz : Int32} {rs : Nat → Nat → Int32} {rl : Nat → Nat → Int32} {rd : Nat → Nat → Int32} {zz : Int32} {rc : Int32} {en : Nat → Int32} {sn : Nat → Int64} {nd : Nat → Int32} {ln : Nat → Int32} {tl : Int32} {ce : Int32} {la : Int32} {cd : Nat → Int32} {ke : Int32} {ty : Int32} {th : Int32} {ap : Int32} {ft : Int32} {bo : Int32} {ot : Int32} {il : Int32} {f0 : Nat → Int32} {f1 : Nat → Int32} {f2 : Nat → Int32} {f3 : Nat → Int32} {f4 : Nat → Int32} {qu : Nat → Int32} {fr : Nat → Int32} {by9 : Nat → Int32} {fa : Nat → Int32} {fs : Nat → Int32} {og : Nat → Int64} (hI : INV s k pp n tx ns lk ld nx sz rs rl rd tl cd ke ty il f0 f2 f3 qu fr by9 fa fs) {x a1 a2 : Int32} {tt : Nat} (htt : tt < 512) (h1 : vp_in (x + 1) L) (h2 : vp_in (x + 2) L) (e1 : xs (x + 1).toNatClampNeg = a1) (e2 : xs (x + 2).toNatClampNeg = a2) (hk9 : LH P G b K p q1 q2 o o1 o2 v v1 u u1 u2 t t1 t2 t3 t4 y y1 M A e (46 + (tt + 1)) (24379 + 6 * (tt + 1)) x) : P (46 + tt) (24379 + 6 * tt) 276 [(0, .ref b), (1, .ref K), (2, .ref M), (3, .ref e), (4, .int x)] [] [(K, ob 4 (kF p o v t y)), (p, ob 0 (cR q1 q2 ns)), (q1, aI G 15 lk), (q2, aI G 16 ld), (o, ob 0 (cR o1 o2 os)), (o1, aI G 15 olk), (o2, aI G 16 old), (v, ob 1 (vF v1 nx sz)), (v1, aQ G 6 (fun k => some (u k))), (u 0, ob 0 (cR (u1 0) (u2 0) (rs 0))), (u1 0, aI G 15 (rl 0)), (u2 0, aI G 16 (rd 0)), (u 1, ob 0 (cR (u1 1) (u2 1) (rs 1))), (u1 1, aI G 15 (rl 1)), (u2 1, aI G 16 (rd 1)), (u 2, ob 0 (cR (u1 2) (u2 2) (rs 2))), (u1 2, aI G 15 (rl 2)), (u2 2, aI G 16 (rd 2)), (u 3, ob 0 (cR (u1 3) (u2 3) (rs 3))), (u1 3, aI G 15 (rl 3)), (u2 3, aI G 16 (rd 3)), (u 4, ob 0 (cR (u1 4) (u2 4) (rs 4))), (u1 4, aI G 15 (rl 4)), (u2 4, aI G 16 (rd 4)), (u 5, ob 0 (cR (u1 5) (u2 5) (rs 5))), (u1 5, aI G 15 (rl 5)), (u2 5, aI G 16 (rd 5)), (t, ob 2 (sF t1 t2 t3 t4 zz rc)), (t1, aI G 4624 en), (t2, aJ G 256 sn), (t3, aI G 16 nd), (t4, aI G 16 ln), (y, ob 3 (tF y1 tl ce la)), (y1, aI G 60 cd), (M, ob 5 (mF A ke ty th ap ft bo ot il)), (A 0, aI G 53 f0), (A 1, aI G 53 f1), (A 2, aI G 318 f2), (A 3, aI G 60 f3), (A 4, aI G 48 f4), (A 5, aI G 4624 qu), (A 6, aI G 4624 fr), (A 7, aI G 4624 by9), (A 8, aI G 4624 fa), (A 9, aI G 16 fs), (e, aJ G 1 og)] := by
  obtain ⟨hC, hSv, htl, hn, hcd, hf, hp, hke, hty, ht, hil⟩ := hI
  have hok := hC.1
  have hk : k ≤ 6 := by obtain ⟨j9, -, -, -, h9, -⟩ := hSv; exact h9
  have hsz : sz = nI k := by obtain ⟨j9, -, -, h9, -⟩ := hSv; exact h9
  have hr0 : 46 + tt ≤ room_1.cells ∧ 24379 + 6 * tt ≤ room_1.slots := ⟨by show _ ≤ 601024; omega, by show _ ≤ 7293034; omega⟩
  have hr1 : 46 + tt + 1 ≤ room_1.cells ∧ 24379 + 6 * tt + 6 ≤ room_1.slots := ⟨by show _ ≤ 601024; omega, by show _ ≤ 7293034; omega⟩
  refine st_aload_n C.cx (dk DL_law_2 35 rfl) rfl ?_
  refine st_aload_n C.cx (dk DL_law_2 36 rfl) rfl ?_
  refine st_iload C.cx (dk DL_law_2 37 rfl) rfl ?_
  refine st_iconst C.cx (v := 1) (dk DL_law_2 38 rfl) (by decide) ?_
  refine st_iadd C.cx (dk DL_law_2 39 rfl) ?_
  refine st_sld C (dk DL_law_3 0 rfl) h1 e1 ?_
  refine st_aload_n C.cx (dk DL_law_3 1 rfl) rfl ?_
  refine st_iload C.cx (dk DL_law_3 2 rfl) rfl ?_
  refine st_iconst C.cx (v := 2) (dk DL_law_3 3 rfl) (by decide) ?_
  refine st_iadd C.cx (dk DL_law_3 4 rfl) ?_
  refine st_sld C (dk DL_law_3 5 rfl) h2 e2 ?_
  refine st_if_eq C.cx (tgt := 296) (dk DL_law_3 6 rfl) (by decide) (fun c_289 => ?_) (fun c_289 => ?_)
  · refine st_iconst C.cx (v := 0) (dk DL_law_3 9 rfl) (by decide) ?_
    refine st_aload_n C.cx (dk DL_law_3 10 rfl) rfl ?_
    refine st_callH (fun _ _ _ _ h => h.1) C (kw_ladder l G hlt hC hSv) mw_L_ladder ms_L_ladder mq_RL_86 (dk DL_law_3 11 rfl) [0, 1, 2, 3, 7, 8, 9, 10, 11, 12, 13, 14, 15, 16, 17, 18, 19, 20, 21, 22, 23, 24, 25, 26, 45] (hC_cons rfl (hC_cons rfl (hC_cons rfl (hC_cons rfl (hC_cons rfl (hC_cons rfl (hC_cons rfl (hC_cons rfl (hC_cons rfl (hC_cons rfl (hC_cons rfl (hC_cons rfl (hC_cons rfl (hC_cons rfl (hC_cons rfl (hC_cons rfl (hC_cons rfl (hC_cons rfl (hC_cons rfl (hC_cons rfl (hC_cons rfl (hC_cons rfl (hC_cons rfl (hC_cons rfl (hC_cons rfl (hC_nil)))))))))))))))))))))))))) (by decide +kernel) rfl rfl (Nat.le_of_ble_eq_true rfl) ⟨Nat.le_of_ble_eq_true rfl, Nat.le_of_ble_eq_true rfl⟩ hr1 (fun r9 w9 v9 hq9 => ?_)
    obtain ⟨rfl, hu⟩ := hq9
    rcases hu with ⟨j, h_1, h_2, rfl, ns9, lk9, ld9, nx9, sz9, rs9, rl9, rd9, h_3, h_4, rfl⟩ | ⟨rfl, h_1, rfl⟩
    · simp only [put_cons, put_nil, List.set_cons_zero, List.set_cons_succ, List.append_nil]
      have qh_j : isN a1 15 := ⟨j, h_1, h_2⟩
      refine st_istore C.cx (dk DL_law_3 12 rfl) (by decide) rfl ?_
      refine st_aload_n C.cx (dk DL_law_3 13 rfl) rfl ?_
      refine st_aload_n C.cx (dk DL_law_3 14 rfl) rfl ?_
      refine st_iload C.cx (dk DL_law_3 15 rfl) rfl ?_
      refine st_iconst C.cx (v := 1) (dk DL_law_3 16 rfl) (by decide) ?_
      refine st_iadd C.cx (dk DL_law_3 17 rfl) ?_
      refine st_sld C (dk DL_law_3 18 rfl) h1 e1 ?_
      refine st_aload_n C.cx (dk DL_law_3 19 rfl) rfl ?_
      refine st_iload C.cx (dk DL_law_3 20 rfl) rfl ?_
      refine st_iconst C.cx (v := 2) (dk DL_law_3 21 rfl) (by decide) ?_
      refine st_iadd C.cx (dk DL_law_3 22 rfl) ?_
      refine st_sld C (dk DL_law_3 23 rfl) h2 e2 ?_
      refine st_if_eq C.cx (tgt := 323) (dk DL_law_3 24 rfl) (by decide) (fun c_316 => ?_) (fun c_316 => ?_)
      · refine st_iconst C.cx (v := 0) (dk DL_law_3 27 rfl) (by decide) ?_
        refine st_cV C.cx (k_X6_ladder l G hf hke hk hp) mf_X6_ladder mi_X6_ladder ml_RL_89 (dk DL_law_3 28 rfl) [34, 37, 35] rfl rfl rfl rfl (Nat.le_of_ble_eq_true rfl) rfl rfl ⟨Nat.le_of_ble_eq_true rfl, Nat.le_of_ble_eq_true rfl⟩ hr1 (fun r8 w8 hq8 => ?_)
        rcases hq8 with ⟨g_1, rfl, rfl⟩ | ⟨jr, g_1, g_2, rfl, f09r, f29r, g_3, g_4, rfl⟩
        · exfalso
          first | contradiction | omega
        · have qg_j : isN a1 15 := ⟨jr, g_1, g_2⟩
          obtain rfl := (u_nI h_2 g_2 (by omega) (by omega)).symm
          simp only [put_cons, put_nil, List.set_cons_zero, List.set_cons_succ, List.append_nil]
          refine st_istore C.cx (dk DL_law_3 29 rfl) (by decide) rfl ?_
          refine st_aload_n C.cx (dk DL_law_3 30 rfl) rfl ?_
          refine st_cV C.cx (k_X6_thrown l G) mf_X6_thrown mi_X6_thrown ml_RL_80 (dk DL_law_3 31 rfl) [34] rfl rfl rfl rfl (Nat.le_of_ble_eq_true rfl) rfl rfl ⟨Nat.le_of_ble_eq_true rfl, Nat.le_of_ble_eq_true rfl⟩ hr1 (fun r9 w9 hq9 => ?_)
          obtain ⟨rfl, rfl⟩ := hq9
          show P _ _ _ _ _ [_, _, _, _, _, _, _, _, _, _, _, _, _, _, _, _, _, _, _, _, _, _, _, _, _, _, _, _, _, _, _, _, _, _, _, _, _, _, _, _, _, _, _, _, _, _]
          refine st_iload C.cx (dk DL_law_3 32 rfl) rfl ?_
          refine st_icmp_eq C.cx (tgt := 340) (dk DL_law_3 33 rfl) (by decide) (fun c_335 => ?_) (fun c_335 => ?_)
          · refine st_iload C.cx (dk DL_law_3 36 rfl) rfl ?_
            refine st_if_ne C.cx (tgt := 357) (dk DL_law_3 37 rfl) (by decide) (fun c_342 => ?_) (fun c_342 => ?_)
            · exact absurd rfl c_342
            · refine st_aload_n C.cx (dk DL_law_3 38 rfl) rfl ?_
              refine st_iconst C.cx (v := 0) (dk DL_law_3 39 rfl) (by decide) ?_
              refine st_lald C.cx (dk DL_law_4 0 rfl) 45 rfl (by unfold vp_in; decide) ?_
              refine st_iload C.cx (dk DL_law_4 1 rfl) rfl ?_
              refine st_i2l C.cx (dk DL_law_4 2 rfl) ?_
              refine st_lcmp C.cx (dk DL_law_4 3 rfl) ?_
              refine st_if_eq C.cx (tgt := 357) (dk DL_law_4 4 rfl) (by decide) (fun c_352 => ?_) (fun c_352 => ?_)
              · refine st_goto C.cx (tgt := 1250) (dk DL_law_4 7 rfl) (by decide) ?_
                refine st_lv C.cx [0, 1, 2, 3, 4] rfl ?_
                refine st_wide C.cx (k' := 46 + (tt + 1)) (n' := 24379 + 6 * (tt + 1)) (by omega) (by omega) ?_
                exact hk9 (updS s (37 + j) (if (0 : Int32) = 0 then 0 else 1)) (svK k) (svP s k pp) n tx ns9 lk9 ld9 os olk old nx9 sz9 rs9 rl9 rd9 zz rc en sn nd ln tl ce la cd (nI (svK k)) ty 0 ap ft bo ot 0 f09r f1 f29r f3 f4 qu fr by9 fa fs (vp_updL og 0 (Int32.toInt64 (nI (s (37 + j))))) ⟨h_3, h_4, htl, hn, hcd, g_3, g_4, rfl, hty, ht, Or.inl rfl⟩
              · exact absurd ((lg_cmp0 _ _).mpr rfl) c_352
          · exact absurd rfl c_335
      · exact absurd c_289 c_316
    · simp only [put_cons, put_nil, List.set_cons_zero, List.set_cons_succ, List.append_nil]
      refine st_istore C.cx (dk DL_law_3 12 rfl) (by decide) rfl ?_
      refine st_aload_n C.cx (dk DL_law_3 13 rfl) rfl ?_
      refine st_aload_n C.cx (dk DL_law_3 14 rfl) rfl ?_
      refine st_iload C.cx (dk DL_law_3 15 rfl) rfl ?_
      refine st_iconst C.cx (v := 1) (dk DL_law_3 16 rfl) (by decide) ?_
      refine st_iadd C.cx (dk DL_law_3 17 rfl) ?_
      refine st_sld C (dk DL_law_3 18 rfl) h1 e1 ?_
      refine st_aload_n C.cx (dk DL_law_3 19 rfl) rfl ?_
      refine st_iload C.cx (dk DL_law_3 20 rfl) rfl ?_
      refine st_iconst C.cx (v := 2) (dk DL_law_3 21 rfl) (by decide) ?_
      refine st_iadd C.cx (dk DL_law_3 22 rfl) ?_
      refine st_sld C (dk DL_law_3 23 rfl) h2 e2 ?_
      refine st_if_eq C.cx (tgt := 323) (dk DL_law_3 24 rfl) (by decide) (fun c_316 => ?_) (fun c_316 => ?_)
      · refine st_iconst C.cx (v := 0) (dk DL_law_3 27 rfl) (by decide) ?_
        refine st_cV C.cx (k_X6_ladder l G hf hke hk hp) mf_X6_ladder mi_X6_ladder ml_RL_89 (dk DL_law_3 28 rfl) [34, 37, 35] rfl rfl rfl rfl (Nat.le_of_ble_eq_true rfl) rfl rfl ⟨Nat.le_of_ble_eq_true rfl, Nat.le_of_ble_eq_true rfl⟩ hr1 (fun r8 w8 hq8 => ?_)
        rcases hq8 with ⟨g_1, rfl, rfl⟩ | ⟨jr, g_1, g_2, rfl, f09r, f29r, g_3, g_4, rfl⟩
        · simp only [put_cons, put_nil, List.set_cons_zero, List.set_cons_succ, List.append_nil]
          refine st_istore C.cx (dk DL_law_3 29 rfl) (by decide) rfl ?_
          refine st_aload_n C.cx (dk DL_law_3 30 rfl) rfl ?_
          refine st_cV C.cx (k_X6_thrown l G) mf_X6_thrown mi_X6_thrown ml_RL_80 (dk DL_law_3 31 rfl) [34] rfl rfl rfl rfl (Nat.le_of_ble_eq_true rfl) rfl rfl ⟨Nat.le_of_ble_eq_true rfl, Nat.le_of_ble_eq_true rfl⟩ hr1 (fun r9 w9 hq9 => ?_)
          obtain ⟨rfl, rfl⟩ := hq9
          show P _ _ _ _ _ [_, _, _, _, _, _, _, _, _, _, _, _, _, _, _, _, _, _, _, _, _, _, _, _, _, _, _, _, _, _, _, _, _, _, _, _, _, _, _, _, _, _, _, _, _, _]
          refine st_iload C.cx (dk DL_law_3 32 rfl) rfl ?_
          refine st_icmp_eq C.cx (tgt := 340) (dk DL_law_3 33 rfl) (by decide) (fun c_335 => ?_) (fun c_335 => ?_)
          · refine st_iload C.cx (dk DL_law_3 36 rfl) rfl ?_
            refine st_if_ne C.cx (tgt := 357) (dk DL_law_3 37 rfl) (by decide) (fun c_342 => ?_) (fun c_342 => ?_)
            · refine st_goto C.cx (tgt := 1250) (dk DL_law_4 7 rfl) (by decide) ?_
              refine st_lv C.cx [0, 1, 2, 3, 4] rfl ?_
              refine st_wide C.cx (k' := 46 + (tt + 1)) (n' := 24379 + 6 * (tt + 1)) (by omega) (by omega) ?_
              exact hk9 s k pp n tx ns lk ld os olk old nx sz rs rl rd zz rc en sn nd ln tl ce la cd ke ty 1 ap ft bo ot il f0 f1 f2 f3 f4 qu fr by9 fa fs og ⟨hC, hSv, htl, hn, hcd, hf, hp, hke, hty, ht, hil⟩
            · exact absurd c_342 (by decide)
          · exact absurd rfl c_335
        · have qg_j : isN a1 15 := ⟨jr, g_1, g_2⟩
          exfalso
          first | contradiction | omega
      · exact absurd c_289 c_316
  · refine st_iconst C.cx (v := 1) (dk DL_law_3 7 rfl) (by decide) ?_
    refine st_goto C.cx (tgt := 297) (dk DL_law_3 8 rfl) (by decide) ?_
    refine st_aload_n C.cx (dk DL_law_3 10 rfl) rfl ?_
    refine st_callH (fun _ _ _ _ h => h.1) C (kw_ladder l G hlt hC hSv) mw_L_ladder ms_L_ladder mq_RL_86 (dk DL_law_3 11 rfl) [0, 1, 2, 3, 7, 8, 9, 10, 11, 12, 13, 14, 15, 16, 17, 18, 19, 20, 21, 22, 23, 24, 25, 26, 45] (hC_cons rfl (hC_cons rfl (hC_cons rfl (hC_cons rfl (hC_cons rfl (hC_cons rfl (hC_cons rfl (hC_cons rfl (hC_cons rfl (hC_cons rfl (hC_cons rfl (hC_cons rfl (hC_cons rfl (hC_cons rfl (hC_cons rfl (hC_cons rfl (hC_cons rfl (hC_cons rfl (hC_cons rfl (hC_cons rfl (hC_cons rfl (hC_cons rfl (hC_cons rfl (hC_cons rfl (hC_cons rfl (hC_nil)))))))))))))))))))))))))) (by decide +kernel) rfl rfl (Nat.le_of_ble_eq_true rfl) ⟨Nat.le_of_ble_eq_true rfl, Nat.le_of_ble_eq_true rfl⟩ hr1 (fun r9 w9 v9 hq9 => ?_)
    obtain ⟨rfl, hu⟩ := hq9
    rcases hu with ⟨j, h_1, h_2, rfl, ns9, lk9, ld9, nx9, sz9, rs9, rl9, rd9, h_3, h_4, rfl⟩ | ⟨rfl, h_1, rfl⟩
    · simp only [put_cons, put_nil, List.set_cons_zero, List.set_cons_succ, List.append_nil]
      have qh_j : isN a1 15 := ⟨j, h_1, h_2⟩
      refine st_istore C.cx (dk DL_law_3 12 rfl) (by decide) rfl ?_
      refine st_aload_n C.cx (dk DL_law_3 13 rfl) rfl ?_
      refine st_aload_n C.cx (dk DL_law_3 14 rfl) rfl ?_
      refine st_iload C.cx (dk DL_law_3 15 rfl) rfl ?_
      refine st_iconst C.cx (v := 1) (dk DL_law_3 16 rfl) (by decide) ?_
      refine st_iadd C.cx (dk DL_law_3 17 rfl) ?_
      refine st_sld C (dk DL_law_3 18 rfl) h1 e1 ?_
      refine st_aload_n C.cx (dk DL_law_3 19 rfl) rfl ?_
      refine st_iload C.cx (dk DL_law_3 20 rfl) rfl ?_
      refine st_iconst C.cx (v := 2) (dk DL_law_3 21 rfl) (by decide) ?_
      refine st_iadd C.cx (dk DL_law_3 22 rfl) ?_
      refine st_sld C (dk DL_law_3 23 rfl) h2 e2 ?_
      refine st_if_eq C.cx (tgt := 323) (dk DL_law_3 24 rfl) (by decide) (fun c_316 => ?_) (fun c_316 => ?_)
      · exact absurd c_316 c_289
      · refine st_iconst C.cx (v := 1) (dk DL_law_3 25 rfl) (by decide) ?_
        refine st_goto C.cx (tgt := 324) (dk DL_law_3 26 rfl) (by decide) ?_
        refine st_cV C.cx (k_X6_ladder l G hf hke hk hp) mf_X6_ladder mi_X6_ladder ml_RL_89 (dk DL_law_3 28 rfl) [34, 37, 35] rfl rfl rfl rfl (Nat.le_of_ble_eq_true rfl) rfl rfl ⟨Nat.le_of_ble_eq_true rfl, Nat.le_of_ble_eq_true rfl⟩ hr1 (fun r8 w8 hq8 => ?_)
        rcases hq8 with ⟨g_1, rfl, rfl⟩ | ⟨jr, g_1, g_2, rfl, f09r, f29r, g_3, g_4, rfl⟩
        · exfalso
          first | contradiction | omega
        · have qg_j : isN a1 15 := ⟨jr, g_1, g_2⟩
          obtain rfl := (u_nI h_2 g_2 (by omega) (by omega)).symm
          simp only [put_cons, put_nil, List.set_cons_zero, List.set_cons_succ, List.append_nil]
          refine st_istore C.cx (dk DL_law_3 29 rfl) (by decide) rfl ?_
          refine st_aload_n C.cx (dk DL_law_3 30 rfl) rfl ?_
          refine st_cV C.cx (k_X6_thrown l G) mf_X6_thrown mi_X6_thrown ml_RL_80 (dk DL_law_3 31 rfl) [34] rfl rfl rfl rfl (Nat.le_of_ble_eq_true rfl) rfl rfl ⟨Nat.le_of_ble_eq_true rfl, Nat.le_of_ble_eq_true rfl⟩ hr1 (fun r9 w9 hq9 => ?_)
          obtain ⟨rfl, rfl⟩ := hq9
          show P _ _ _ _ _ [_, _, _, _, _, _, _, _, _, _, _, _, _, _, _, _, _, _, _, _, _, _, _, _, _, _, _, _, _, _, _, _, _, _, _, _, _, _, _, _, _, _, _, _, _, _]
          refine st_iload C.cx (dk DL_law_3 32 rfl) rfl ?_
          refine st_icmp_eq C.cx (tgt := 340) (dk DL_law_3 33 rfl) (by decide) (fun c_335 => ?_) (fun c_335 => ?_)
          · refine st_iload C.cx (dk DL_law_3 36 rfl) rfl ?_
            refine st_if_ne C.cx (tgt := 357) (dk DL_law_3 37 rfl) (by decide) (fun c_342 => ?_) (fun c_342 => ?_)
            · exact absurd rfl c_342
            · refine st_aload_n C.cx (dk DL_law_3 38 rfl) rfl ?_
              refine st_iconst C.cx (v := 0) (dk DL_law_3 39 rfl) (by decide) ?_
              refine st_lald C.cx (dk DL_law_4 0 rfl) 45 rfl (by unfold vp_in; decide) ?_
              refine st_iload C.cx (dk DL_law_4 1 rfl) rfl ?_
              refine st_i2l C.cx (dk DL_law_4 2 rfl) ?_
              refine st_lcmp C.cx (dk DL_law_4 3 rfl) ?_
              refine st_if_eq C.cx (tgt := 357) (dk DL_law_4 4 rfl) (by decide) (fun c_352 => ?_) (fun c_352 => ?_)
              · refine st_goto C.cx (tgt := 1250) (dk DL_law_4 7 rfl) (by decide) ?_
                refine st_lv C.cx [0, 1, 2, 3, 4] rfl ?_
                refine st_wide C.cx (k' := 46 + (tt + 1)) (n' := 24379 + 6 * (tt + 1)) (by omega) (by omega) ?_
                exact hk9 (updS s (37 + j) (if (1 : Int32) = 0 then 0 else 1)) (svK k) (svP s k pp) n tx ns9 lk9 ld9 os olk old nx9 sz9 rs9 rl9 rd9 zz rc en sn nd ln tl ce la cd (nI (svK k)) ty 0 ap ft bo ot 0 f09r f1 f29r f3 f4 qu fr by9 fa fs (vp_updL og 0 (Int32.toInt64 (nI (s (37 + j))))) ⟨h_3, h_4, htl, hn, hcd, g_3, g_4, rfl, hty, ht, Or.inl rfl⟩
              · exact absurd ((lg_cmp0 _ _).mpr rfl) c_352
          · exact absurd rfl c_335
    · simp only [put_cons, put_nil, List.set_cons_zero, List.set_cons_succ, List.append_nil]
      refine st_istore C.cx (dk DL_law_3 12 rfl) (by decide) rfl ?_
      refine st_aload_n C.cx (dk DL_law_3 13 rfl) rfl ?_
      refine st_aload_n C.cx (dk DL_law_3 14 rfl) rfl ?_
      refine st_iload C.cx (dk DL_law_3 15 rfl) rfl ?_
      refine st_iconst C.cx (v := 1) (dk DL_law_3 16 rfl) (by decide) ?_
      refine st_iadd C.cx (dk DL_law_3 17 rfl) ?_
      refine st_sld C (dk DL_law_3 18 rfl) h1 e1 ?_
      refine st_aload_n C.cx (dk DL_law_3 19 rfl) rfl ?_
      refine st_iload C.cx (dk DL_law_3 20 rfl) rfl ?_
      refine st_iconst C.cx (v := 2) (dk DL_law_3 21 rfl) (by decide) ?_
      refine st_iadd C.cx (dk DL_law_3 22 rfl) ?_
      refine st_sld C (dk DL_law_3 23 rfl) h2 e2 ?_
      refine st_if_eq C.cx (tgt := 323) (dk DL_law_3 24 rfl) (by decide) (fun c_316 => ?_) (fun c_316 => ?_)
      · exact absurd c_316 c_289
      · refine st_iconst C.cx (v := 1) (dk DL_law_3 25 rfl) (by decide) ?_
        refine st_goto C.cx (tgt := 324) (dk DL_law_3 26 rfl) (by decide) ?_
        refine st_cV C.cx (k_X6_ladder l G hf hke hk hp) mf_X6_ladder mi_X6_ladder ml_RL_89 (dk DL_law_3 28 rfl) [34, 37, 35] rfl rfl rfl rfl (Nat.le_of_ble_eq_true rfl) rfl rfl ⟨Nat.le_of_ble_eq_true rfl, Nat.le_of_ble_eq_true rfl⟩ hr1 (fun r8 w8 hq8 => ?_)
        rcases hq8 with ⟨g_1, rfl, rfl⟩ | ⟨jr, g_1, g_2, rfl, f09r, f29r, g_3, g_4, rfl⟩
        · simp only [put_cons, put_nil, List.set_cons_zero, List.set_cons_succ, List.append_nil]
          refine st_istore C.cx (dk DL_law_3 29 rfl) (by decide) rfl ?_
          refine st_aload_n C.cx (dk DL_law_3 30 rfl) rfl ?_
          refine st_cV C.cx (k_X6_thrown l G) mf_X6_thrown mi_X6_thrown ml_RL_80 (dk DL_law_3 31 rfl) [34] rfl rfl rfl rfl (Nat.le_of_ble_eq_true rfl) rfl rfl ⟨Nat.le_of_ble_eq_true rfl, Nat.le_of_ble_eq_true rfl⟩ hr1 (fun r9 w9 hq9 => ?_)
          obtain ⟨rfl, rfl⟩ := hq9
          show P _ _ _ _ _ [_, _, _, _, _, _, _, _, _, _, _, _, _, _, _, _, _, _, _, _, _, _, _, _, _, _, _, _, _, _, _, _, _, _, _, _, _, _, _, _, _, _, _, _, _, _]
          refine st_iload C.cx (dk DL_law_3 32 rfl) rfl ?_
          refine st_icmp_eq C.cx (tgt := 340) (dk DL_law_3 33 rfl) (by decide) (fun c_335 => ?_) (fun c_335 => ?_)
          · refine st_iload C.cx (dk DL_law_3 36 rfl) rfl ?_
            refine st_if_ne C.cx (tgt := 357) (dk DL_law_3 37 rfl) (by decide) (fun c_342 => ?_) (fun c_342 => ?_)
            · refine st_goto C.cx (tgt := 1250) (dk DL_law_4 7 rfl) (by decide) ?_
              refine st_lv C.cx [0, 1, 2, 3, 4] rfl ?_
              refine st_wide C.cx (k' := 46 + (tt + 1)) (n' := 24379 + 6 * (tt + 1)) (by omega) (by omega) ?_
              exact hk9 s k pp n tx ns lk ld os olk old nx sz rs rl rd zz rc en sn nd ln tl ce la cd ke ty 1 ap ft bo ot il f0 f1 f2 f3 f4 qu fr by9 fa fs og ⟨hC, hSv, htl, hn, hcd, hf, hp, hke, hty, ht, hil⟩
            · exact absurd c_342 (by decide)
          · exact absurd rfl c_335
        · have qg_j : isN a1 15 := ⟨jr, g_1, g_2⟩
          exfalso
          first | contradiction | omega
set_option maxHeartbeats 8000000 in
set_option maxRecDepth 100000 in
theorem lc_fold {l : Launch} {G : wG} (hlt : l.stackTraces = false) {L : Nat} {xs : Nat → Int32} {P : PT} {nm9 : String} {b K p q1 q2 o o1 o2 v v1 : Nat} {u u1 u2 : Nat → Nat} {t t1 t2 t3 t4 y y1 M : Nat} {A : Nat → Nat} {e : Nat} (C : Cv l G RL cL_law 9 nm9 room_1 (exL b L xs) P) {s : mS} {k : Nat} {pp : Nat → mS} {n : Nat} {tx : Nat → Nat} {ns : Nat → Int32} {lk : Nat → Int32} {ld : Nat → Int32} {os : Nat → Int32} {olk : Nat → Int32} {old : Nat → Int32} {nx : Int32} {sz : Int32} {rs : Nat → Nat → Int32} {rl : Nat → Nat → Int32} {rd : Nat → Nat → Int32} {zz : Int32} {rc : Int32} {en : Nat → Int32} {sn : Nat → Int64} {nd : Nat → Int32} {ln : Nat → Int32} {tl : Int32} {ce : Int32} {la : Int32} {cd : Nat → Int32} {ke : Int32} {ty : Int32} {th : Int32} {ap : Int32} {ft : Int32} {bo : Int32} {ot : Int32} {il : Int32} {f0 : Nat → Int32} {f1 : Nat → Int32} {f2 : Nat → Int32} {f3 : Nat → Int32} {f4 : Nat → Int32} {qu : Nat → Int32} {fr : Nat → Int32} {by9 : Nat → Int32} {fa : Nat → Int32} {fs : Nat → Int32} {og : Nat → Int64} (hI : INV s k pp n tx ns lk ld nx sz rs rl rd tl cd ke ty il f0 f2 f3 qu fr by9 fa fs) {x a1 a2 : Int32} {tt : Nat} (htt : tt < 512) (h1 : vp_in (x + 1) L) (h2 : vp_in (x + 2) L) (e1 : xs (x + 1).toNatClampNeg = a1) (e2 : xs (x + 2).toNatClampNeg = a2) (hk9 : LH P G b K p q1 q2 o o1 o2 v v1 u u1 u2 t t1 t2 t3 t4 y y1 M A e (46 + (tt + 1)) (24379 + 6 * (tt + 1)) x) : P (46 + tt) (24379 + 6 * tt) 360 [(0, .ref b), (1, .ref K), (2, .ref M), (3, .ref e), (4, .int x)] [] [(K, ob 4 (kF p o v t y)), (p, ob 0 (cR q1 q2 ns)), (q1, aI G 15 lk), (q2, aI G 16 ld), (o, ob 0 (cR o1 o2 os)), (o1, aI G 15 olk), (o2, aI G 16 old), (v, ob 1 (vF v1 nx sz)), (v1, aQ G 6 (fun k => some (u k))), (u 0, ob 0 (cR (u1 0) (u2 0) (rs 0))), (u1 0, aI G 15 (rl 0)), (u2 0, aI G 16 (rd 0)), (u 1, ob 0 (cR (u1 1) (u2 1) (rs 1))), (u1 1, aI G 15 (rl 1)), (u2 1, aI G 16 (rd 1)), (u 2, ob 0 (cR (u1 2) (u2 2) (rs 2))), (u1 2, aI G 15 (rl 2)), (u2 2, aI G 16 (rd 2)), (u 3, ob 0 (cR (u1 3) (u2 3) (rs 3))), (u1 3, aI G 15 (rl 3)), (u2 3, aI G 16 (rd 3)), (u 4, ob 0 (cR (u1 4) (u2 4) (rs 4))), (u1 4, aI G 15 (rl 4)), (u2 4, aI G 16 (rd 4)), (u 5, ob 0 (cR (u1 5) (u2 5) (rs 5))), (u1 5, aI G 15 (rl 5)), (u2 5, aI G 16 (rd 5)), (t, ob 2 (sF t1 t2 t3 t4 zz rc)), (t1, aI G 4624 en), (t2, aJ G 256 sn), (t3, aI G 16 nd), (t4, aI G 16 ln), (y, ob 3 (tF y1 tl ce la)), (y1, aI G 60 cd), (M, ob 5 (mF A ke ty th ap ft bo ot il)), (A 0, aI G 53 f0), (A 1, aI G 53 f1), (A 2, aI G 318 f2), (A 3, aI G 60 f3), (A 4, aI G 48 f4), (A 5, aI G 4624 qu), (A 6, aI G 4624 fr), (A 7, aI G 4624 by9), (A 8, aI G 4624 fa), (A 9, aI G 16 fs), (e, aJ G 1 og)] := by
  obtain ⟨hC, hSv, htl, hn, hcd, hf, hp, hke, hty, ht, hil⟩ := hI
  have hok := hC.1
  have hk : k ≤ 6 := by obtain ⟨j9, -, -, -, h9, -⟩ := hSv; exact h9
  have hsz : sz = nI k := by obtain ⟨j9, -, -, h9, -⟩ := hSv; exact h9
  have hr0 : 46 + tt ≤ room_1.cells ∧ 24379 + 6 * tt ≤ room_1.slots := ⟨by show _ ≤ 601024; omega, by show _ ≤ 7293034; omega⟩
  have hr1 : 46 + tt + 1 ≤ room_1.cells ∧ 24379 + 6 * tt + 6 ≤ room_1.slots := ⟨by show _ ≤ 601024; omega, by show _ ≤ 7293034; omega⟩
  refine st_aload_n C.cx (dk DL_law_4 8 rfl) rfl ?_
  refine st_aload_n C.cx (dk DL_law_4 9 rfl) rfl ?_
  refine st_iload C.cx (dk DL_law_4 10 rfl) rfl ?_
  refine st_iconst C.cx (v := 1) (dk DL_law_4 11 rfl) (by decide) ?_
  refine st_iadd C.cx (dk DL_law_4 12 rfl) ?_
  refine st_sld C (dk DL_law_4 13 rfl) h1 e1 ?_
  refine st_aload_n C.cx (dk DL_law_4 14 rfl) rfl ?_
  refine st_callH (fun _ _ _ _ h => h.1) C (kw_fold l G hlt hC hSv) mw_L_fold ms_L_fold mq_RL_90 (dk DL_law_4 15 rfl) [0, 1, 2, 3, 7, 8, 9, 10, 11, 12, 13, 14, 15, 16, 17, 18, 19, 20, 21, 22, 23, 24, 25, 26, 45] (hC_cons rfl (hC_cons rfl (hC_cons rfl (hC_cons rfl (hC_cons rfl (hC_cons rfl (hC_cons rfl (hC_cons rfl (hC_cons rfl (hC_cons rfl (hC_cons rfl (hC_cons rfl (hC_cons rfl (hC_cons rfl (hC_cons rfl (hC_cons rfl (hC_cons rfl (hC_cons rfl (hC_cons rfl (hC_cons rfl (hC_cons rfl (hC_cons rfl (hC_cons rfl (hC_cons rfl (hC_cons rfl (hC_nil)))))))))))))))))))))))))) (by decide +kernel) rfl rfl (Nat.le_of_ble_eq_true rfl) ⟨Nat.le_of_ble_eq_true rfl, Nat.le_of_ble_eq_true rfl⟩ hr1 (fun r9 w9 v9 hq9 => ?_)
  obtain ⟨rfl, hu⟩ := hq9
  rcases hu with ⟨j, h_1, h_2, h_3, rfl, ns9, lk9, ld9, nx9, sz9, rs9, rl9, rd9, h_4, h_5, rfl⟩ | ⟨rfl, h_1, rfl⟩
  · simp only [put_cons, put_nil, List.set_cons_zero, List.set_cons_succ, List.append_nil]
    have qh_j : isR a1 2 8 := ⟨j, h_1, h_2, h_3⟩
    refine st_istore C.cx (dk DL_law_4 16 rfl) (by decide) rfl ?_
    refine st_aload_n C.cx (dk DL_law_4 17 rfl) rfl ?_
    refine st_aload_n C.cx (dk DL_law_4 18 rfl) rfl ?_
    refine st_iload C.cx (dk DL_law_4 19 rfl) rfl ?_
    refine st_iconst C.cx (v := 1) (dk DL_law_4 20 rfl) (by decide) ?_
    refine st_iadd C.cx (dk DL_law_4 21 rfl) ?_
    refine st_sld C (dk DL_law_4 22 rfl) h1 e1 ?_
    refine st_cV C.cx (k_X6_fold l G hf hke hk hp) mf_X6_fold mi_X6_fold ml_RL_93 (dk DL_law_4 23 rfl) [34, 37, 35] rfl rfl rfl rfl (Nat.le_of_ble_eq_true rfl) rfl rfl ⟨Nat.le_of_ble_eq_true rfl, Nat.le_of_ble_eq_true rfl⟩ hr1 (fun r8 w8 hq8 => ?_)
    rcases hq8 with ⟨g_1, rfl, rfl⟩ | ⟨jr, g_1, g_2, g_3, rfl, f09r, f29r, g_4, g_5, rfl⟩
    · exfalso
      first | contradiction | omega
    · have qg_j : isR a1 2 8 := ⟨jr, g_1, g_2, g_3⟩
      obtain rfl := (u_nI h_3 g_3 (by omega) (by omega)).symm
      simp only [put_cons, put_nil, List.set_cons_zero, List.set_cons_succ, List.append_nil]
      refine st_istore C.cx (dk DL_law_4 24 rfl) (by decide) rfl ?_
      refine st_aload_n C.cx (dk DL_law_4 25 rfl) rfl ?_
      refine st_cV C.cx (k_X6_thrown l G) mf_X6_thrown mi_X6_thrown ml_RL_80 (dk DL_law_4 26 rfl) [34] rfl rfl rfl rfl (Nat.le_of_ble_eq_true rfl) rfl rfl ⟨Nat.le_of_ble_eq_true rfl, Nat.le_of_ble_eq_true rfl⟩ hr1 (fun r9 w9 hq9 => ?_)
      obtain ⟨rfl, rfl⟩ := hq9
      show P _ _ _ _ _ [_, _, _, _, _, _, _, _, _, _, _, _, _, _, _, _, _, _, _, _, _, _, _, _, _, _, _, _, _, _, _, _, _, _, _, _, _, _, _, _, _, _, _, _, _, _]
      refine st_iload C.cx (dk DL_law_4 27 rfl) rfl ?_
      refine st_icmp_eq C.cx (tgt := 396) (dk DL_law_4 28 rfl) (by decide) (fun c_391 => ?_) (fun c_391 => ?_)
      · refine st_iload C.cx (dk DL_law_4 31 rfl) rfl ?_
        refine st_if_ne C.cx (tgt := 413) (dk DL_law_4 32 rfl) (by decide) (fun c_398 => ?_) (fun c_398 => ?_)
        · exact absurd rfl c_398
        · refine st_aload_n C.cx (dk DL_law_4 33 rfl) rfl ?_
          refine st_iconst C.cx (v := 0) (dk DL_law_4 34 rfl) (by decide) ?_
          refine st_lald C.cx (dk DL_law_4 35 rfl) 45 rfl (by unfold vp_in; decide) ?_
          refine st_iload C.cx (dk DL_law_4 36 rfl) rfl ?_
          refine st_i2l C.cx (dk DL_law_4 37 rfl) ?_
          refine st_lcmp C.cx (dk DL_law_4 38 rfl) ?_
          refine st_if_eq C.cx (tgt := 413) (dk DL_law_4 39 rfl) (by decide) (fun c_408 => ?_) (fun c_408 => ?_)
          · refine st_goto C.cx (tgt := 1250) (dk DL_law_5 2 rfl) (by decide) ?_
            refine st_lv C.cx [0, 1, 2, 3, 4] rfl ?_
            refine st_wide C.cx (k' := 46 + (tt + 1)) (n' := 24379 + 6 * (tt + 1)) (by omega) (by omega) ?_
            exact hk9 (updS s 0 j) (svK k) (svP s k pp) n tx ns9 lk9 ld9 os olk old nx9 sz9 rs9 rl9 rd9 zz rc en sn nd ln tl ce la cd (nI (svK k)) ty 0 ap ft bo ot 0 f09r f1 f29r f3 f4 qu fr by9 fa fs (vp_updL og 0 (Int32.toInt64 (nI (s 0)))) ⟨h_4, h_5, htl, hn, hcd, g_4, g_5, rfl, hty, ht, Or.inl rfl⟩
          · exact absurd ((lg_cmp0 _ _).mpr rfl) c_408
      · exact absurd rfl c_391
  · simp only [put_cons, put_nil, List.set_cons_zero, List.set_cons_succ, List.append_nil]
    refine st_istore C.cx (dk DL_law_4 16 rfl) (by decide) rfl ?_
    refine st_aload_n C.cx (dk DL_law_4 17 rfl) rfl ?_
    refine st_aload_n C.cx (dk DL_law_4 18 rfl) rfl ?_
    refine st_iload C.cx (dk DL_law_4 19 rfl) rfl ?_
    refine st_iconst C.cx (v := 1) (dk DL_law_4 20 rfl) (by decide) ?_
    refine st_iadd C.cx (dk DL_law_4 21 rfl) ?_
    refine st_sld C (dk DL_law_4 22 rfl) h1 e1 ?_
    refine st_cV C.cx (k_X6_fold l G hf hke hk hp) mf_X6_fold mi_X6_fold ml_RL_93 (dk DL_law_4 23 rfl) [34, 37, 35] rfl rfl rfl rfl (Nat.le_of_ble_eq_true rfl) rfl rfl ⟨Nat.le_of_ble_eq_true rfl, Nat.le_of_ble_eq_true rfl⟩ hr1 (fun r8 w8 hq8 => ?_)
    rcases hq8 with ⟨g_1, rfl, rfl⟩ | ⟨jr, g_1, g_2, g_3, rfl, f09r, f29r, g_4, g_5, rfl⟩
    · simp only [put_cons, put_nil, List.set_cons_zero, List.set_cons_succ, List.append_nil]
      refine st_istore C.cx (dk DL_law_4 24 rfl) (by decide) rfl ?_
      refine st_aload_n C.cx (dk DL_law_4 25 rfl) rfl ?_
      refine st_cV C.cx (k_X6_thrown l G) mf_X6_thrown mi_X6_thrown ml_RL_80 (dk DL_law_4 26 rfl) [34] rfl rfl rfl rfl (Nat.le_of_ble_eq_true rfl) rfl rfl ⟨Nat.le_of_ble_eq_true rfl, Nat.le_of_ble_eq_true rfl⟩ hr1 (fun r9 w9 hq9 => ?_)
      obtain ⟨rfl, rfl⟩ := hq9
      show P _ _ _ _ _ [_, _, _, _, _, _, _, _, _, _, _, _, _, _, _, _, _, _, _, _, _, _, _, _, _, _, _, _, _, _, _, _, _, _, _, _, _, _, _, _, _, _, _, _, _, _]
      refine st_iload C.cx (dk DL_law_4 27 rfl) rfl ?_
      refine st_icmp_eq C.cx (tgt := 396) (dk DL_law_4 28 rfl) (by decide) (fun c_391 => ?_) (fun c_391 => ?_)
      · refine st_iload C.cx (dk DL_law_4 31 rfl) rfl ?_
        refine st_if_ne C.cx (tgt := 413) (dk DL_law_4 32 rfl) (by decide) (fun c_398 => ?_) (fun c_398 => ?_)
        · refine st_goto C.cx (tgt := 1250) (dk DL_law_5 2 rfl) (by decide) ?_
          refine st_lv C.cx [0, 1, 2, 3, 4] rfl ?_
          refine st_wide C.cx (k' := 46 + (tt + 1)) (n' := 24379 + 6 * (tt + 1)) (by omega) (by omega) ?_
          exact hk9 s k pp n tx ns lk ld os olk old nx sz rs rl rd zz rc en sn nd ln tl ce la cd ke ty 1 ap ft bo ot il f0 f1 f2 f3 f4 qu fr by9 fa fs og ⟨hC, hSv, htl, hn, hcd, hf, hp, hke, hty, ht, hil⟩
        · exact absurd c_398 (by decide)
      · exact absurd rfl c_391
    · have qg_j : isR a1 2 8 := ⟨jr, g_1, g_2, g_3⟩
      exfalso
      first | contradiction | omega
set_option maxHeartbeats 8000000 in
set_option maxRecDepth 100000 in
theorem lc_stand {l : Launch} {G : wG} (hlt : l.stackTraces = false) {L : Nat} {xs : Nat → Int32} {P : PT} {nm9 : String} {b K p q1 q2 o o1 o2 v v1 : Nat} {u u1 u2 : Nat → Nat} {t t1 t2 t3 t4 y y1 M : Nat} {A : Nat → Nat} {e : Nat} (C : Cv l G RL cL_law 9 nm9 room_1 (exL b L xs) P) {s : mS} {k : Nat} {pp : Nat → mS} {n : Nat} {tx : Nat → Nat} {ns : Nat → Int32} {lk : Nat → Int32} {ld : Nat → Int32} {os : Nat → Int32} {olk : Nat → Int32} {old : Nat → Int32} {nx : Int32} {sz : Int32} {rs : Nat → Nat → Int32} {rl : Nat → Nat → Int32} {rd : Nat → Nat → Int32} {zz : Int32} {rc : Int32} {en : Nat → Int32} {sn : Nat → Int64} {nd : Nat → Int32} {ln : Nat → Int32} {tl : Int32} {ce : Int32} {la : Int32} {cd : Nat → Int32} {ke : Int32} {ty : Int32} {th : Int32} {ap : Int32} {ft : Int32} {bo : Int32} {ot : Int32} {il : Int32} {f0 : Nat → Int32} {f1 : Nat → Int32} {f2 : Nat → Int32} {f3 : Nat → Int32} {f4 : Nat → Int32} {qu : Nat → Int32} {fr : Nat → Int32} {by9 : Nat → Int32} {fa : Nat → Int32} {fs : Nat → Int32} {og : Nat → Int64} (hI : INV s k pp n tx ns lk ld nx sz rs rl rd tl cd ke ty il f0 f2 f3 qu fr by9 fa fs) {x a1 a2 : Int32} {tt : Nat} (htt : tt < 512) (h1 : vp_in (x + 1) L) (h2 : vp_in (x + 2) L) (e1 : xs (x + 1).toNatClampNeg = a1) (e2 : xs (x + 2).toNatClampNeg = a2) (hk9 : LH P G b K p q1 q2 o o1 o2 v v1 u u1 u2 t t1 t2 t3 t4 y y1 M A e (46 + (tt + 1)) (24379 + 6 * (tt + 1)) x) : P (46 + tt) (24379 + 6 * tt) 416 [(0, .ref b), (1, .ref K), (2, .ref M), (3, .ref e), (4, .int x)] [] [(K, ob 4 (kF p o v t y)), (p, ob 0 (cR q1 q2 ns)), (q1, aI G 15 lk), (q2, aI G 16 ld), (o, ob 0 (cR o1 o2 os)), (o1, aI G 15 olk), (o2, aI G 16 old), (v, ob 1 (vF v1 nx sz)), (v1, aQ G 6 (fun k => some (u k))), (u 0, ob 0 (cR (u1 0) (u2 0) (rs 0))), (u1 0, aI G 15 (rl 0)), (u2 0, aI G 16 (rd 0)), (u 1, ob 0 (cR (u1 1) (u2 1) (rs 1))), (u1 1, aI G 15 (rl 1)), (u2 1, aI G 16 (rd 1)), (u 2, ob 0 (cR (u1 2) (u2 2) (rs 2))), (u1 2, aI G 15 (rl 2)), (u2 2, aI G 16 (rd 2)), (u 3, ob 0 (cR (u1 3) (u2 3) (rs 3))), (u1 3, aI G 15 (rl 3)), (u2 3, aI G 16 (rd 3)), (u 4, ob 0 (cR (u1 4) (u2 4) (rs 4))), (u1 4, aI G 15 (rl 4)), (u2 4, aI G 16 (rd 4)), (u 5, ob 0 (cR (u1 5) (u2 5) (rs 5))), (u1 5, aI G 15 (rl 5)), (u2 5, aI G 16 (rd 5)), (t, ob 2 (sF t1 t2 t3 t4 zz rc)), (t1, aI G 4624 en), (t2, aJ G 256 sn), (t3, aI G 16 nd), (t4, aI G 16 ln), (y, ob 3 (tF y1 tl ce la)), (y1, aI G 60 cd), (M, ob 5 (mF A ke ty th ap ft bo ot il)), (A 0, aI G 53 f0), (A 1, aI G 53 f1), (A 2, aI G 318 f2), (A 3, aI G 60 f3), (A 4, aI G 48 f4), (A 5, aI G 4624 qu), (A 6, aI G 4624 fr), (A 7, aI G 4624 by9), (A 8, aI G 4624 fa), (A 9, aI G 16 fs), (e, aJ G 1 og)] := by
  obtain ⟨hC, hSv, htl, hn, hcd, hf, hp, hke, hty, ht, hil⟩ := hI
  have hok := hC.1
  have hk : k ≤ 6 := by obtain ⟨j9, -, -, -, h9, -⟩ := hSv; exact h9
  have hsz : sz = nI k := by obtain ⟨j9, -, -, h9, -⟩ := hSv; exact h9
  have hr0 : 46 + tt ≤ room_1.cells ∧ 24379 + 6 * tt ≤ room_1.slots := ⟨by show _ ≤ 601024; omega, by show _ ≤ 7293034; omega⟩
  have hr1 : 46 + tt + 1 ≤ room_1.cells ∧ 24379 + 6 * tt + 6 ≤ room_1.slots := ⟨by show _ ≤ 601024; omega, by show _ ≤ 7293034; omega⟩
  refine st_aload_n C.cx (dk DL_law_5 3 rfl) rfl ?_
  refine st_aload_n C.cx (dk DL_law_5 4 rfl) rfl ?_
  refine st_iload C.cx (dk DL_law_5 5 rfl) rfl ?_
  refine st_iconst C.cx (v := 1) (dk DL_law_5 6 rfl) (by decide) ?_
  refine st_iadd C.cx (dk DL_law_5 7 rfl) ?_
  refine st_sld C (dk DL_law_5 8 rfl) h1 e1 ?_
  refine st_aload_n C.cx (dk DL_law_5 9 rfl) rfl ?_
  refine st_callH (fun _ _ _ _ h => h.1) C (kw_stand l G hlt hC hSv) mw_L_stand ms_L_stand mq_RL_94 (dk DL_law_5 10 rfl) [0, 1, 2, 3, 7, 8, 9, 10, 11, 12, 13, 14, 15, 16, 17, 18, 19, 20, 21, 22, 23, 24, 25, 26, 45] (hC_cons rfl (hC_cons rfl (hC_cons rfl (hC_cons rfl (hC_cons rfl (hC_cons rfl (hC_cons rfl (hC_cons rfl (hC_cons rfl (hC_cons rfl (hC_cons rfl (hC_cons rfl (hC_cons rfl (hC_cons rfl (hC_cons rfl (hC_cons rfl (hC_cons rfl (hC_cons rfl (hC_cons rfl (hC_cons rfl (hC_cons rfl (hC_cons rfl (hC_cons rfl (hC_cons rfl (hC_cons rfl (hC_nil)))))))))))))))))))))))))) (by decide +kernel) rfl rfl (Nat.le_of_ble_eq_true rfl) ⟨Nat.le_of_ble_eq_true rfl, Nat.le_of_ble_eq_true rfl⟩ hr1 (fun r9 w9 v9 hq9 => ?_)
  obtain ⟨rfl, hu⟩ := hq9
  rcases hu with ⟨j, h_1, h_2, rfl, ns9, lk9, ld9, nx9, sz9, rs9, rl9, rd9, h_3, h_4, rfl⟩ | ⟨rfl, h_1, rfl⟩
  · simp only [put_cons, put_nil, List.set_cons_zero, List.set_cons_succ, List.append_nil]
    have qh_j : isN a1 15 := ⟨j, h_1, h_2⟩
    refine st_istore C.cx (dk DL_law_5 11 rfl) (by decide) rfl ?_
    refine st_aload_n C.cx (dk DL_law_5 12 rfl) rfl ?_
    refine st_aload_n C.cx (dk DL_law_5 13 rfl) rfl ?_
    refine st_iload C.cx (dk DL_law_5 14 rfl) rfl ?_
    refine st_iconst C.cx (v := 1) (dk DL_law_5 15 rfl) (by decide) ?_
    refine st_iadd C.cx (dk DL_law_5 16 rfl) ?_
    refine st_sld C (dk DL_law_5 17 rfl) h1 e1 ?_
    refine st_cV C.cx (k_X6_stand l G hf hke hk hp) mf_X6_stand mi_X6_stand ml_RL_96 (dk DL_law_5 18 rfl) [34, 37, 35] rfl rfl rfl rfl (Nat.le_of_ble_eq_true rfl) rfl rfl ⟨Nat.le_of_ble_eq_true rfl, Nat.le_of_ble_eq_true rfl⟩ hr1 (fun r8 w8 hq8 => ?_)
    rcases hq8 with ⟨g_1, rfl, rfl⟩ | ⟨jr, g_1, g_2, rfl, f09r, f29r, g_3, g_4, rfl⟩
    · exfalso
      first | contradiction | omega
    · have qg_j : isN a1 15 := ⟨jr, g_1, g_2⟩
      obtain rfl := (u_nI h_2 g_2 (by omega) (by omega)).symm
      simp only [put_cons, put_nil, List.set_cons_zero, List.set_cons_succ, List.append_nil]
      refine st_istore C.cx (dk DL_law_5 19 rfl) (by decide) rfl ?_
      refine st_aload_n C.cx (dk DL_law_5 20 rfl) rfl ?_
      refine st_cV C.cx (k_X6_thrown l G) mf_X6_thrown mi_X6_thrown ml_RL_80 (dk DL_law_5 21 rfl) [34] rfl rfl rfl rfl (Nat.le_of_ble_eq_true rfl) rfl rfl ⟨Nat.le_of_ble_eq_true rfl, Nat.le_of_ble_eq_true rfl⟩ hr1 (fun r9 w9 hq9 => ?_)
      obtain ⟨rfl, rfl⟩ := hq9
      show P _ _ _ _ _ [_, _, _, _, _, _, _, _, _, _, _, _, _, _, _, _, _, _, _, _, _, _, _, _, _, _, _, _, _, _, _, _, _, _, _, _, _, _, _, _, _, _, _, _, _, _]
      refine st_iload C.cx (dk DL_law_5 22 rfl) rfl ?_
      refine st_icmp_eq C.cx (tgt := 452) (dk DL_law_5 23 rfl) (by decide) (fun c_447 => ?_) (fun c_447 => ?_)
      · refine st_iload C.cx (dk DL_law_5 26 rfl) rfl ?_
        refine st_if_ne C.cx (tgt := 469) (dk DL_law_5 27 rfl) (by decide) (fun c_454 => ?_) (fun c_454 => ?_)
        · exact absurd rfl c_454
        · refine st_aload_n C.cx (dk DL_law_5 28 rfl) rfl ?_
          refine st_iconst C.cx (v := 0) (dk DL_law_5 29 rfl) (by decide) ?_
          refine st_lald C.cx (dk DL_law_5 30 rfl) 45 rfl (by unfold vp_in; decide) ?_
          refine st_iload C.cx (dk DL_law_5 31 rfl) rfl ?_
          refine st_i2l C.cx (dk DL_law_5 32 rfl) ?_
          refine st_lcmp C.cx (dk DL_law_5 33 rfl) ?_
          refine st_if_eq C.cx (tgt := 469) (dk DL_law_5 34 rfl) (by decide) (fun c_464 => ?_) (fun c_464 => ?_)
          · refine st_goto C.cx (tgt := 1250) (dk DL_law_5 37 rfl) (by decide) ?_
            refine st_lv C.cx [0, 1, 2, 3, 4] rfl ?_
            refine st_wide C.cx (k' := 46 + (tt + 1)) (n' := 24379 + 6 * (tt + 1)) (by omega) (by omega) ?_
            exact hk9 (updS s 1 j) (svK k) (svP s k pp) n tx ns9 lk9 ld9 os olk old nx9 sz9 rs9 rl9 rd9 zz rc en sn nd ln tl ce la cd (nI (svK k)) ty 0 ap ft bo ot 0 f09r f1 f29r f3 f4 qu fr by9 fa fs (vp_updL og 0 (Int32.toInt64 (nI (s 1)))) ⟨h_3, h_4, htl, hn, hcd, g_3, g_4, rfl, hty, ht, Or.inl rfl⟩
          · exact absurd ((lg_cmp0 _ _).mpr rfl) c_464
      · exact absurd rfl c_447
  · simp only [put_cons, put_nil, List.set_cons_zero, List.set_cons_succ, List.append_nil]
    refine st_istore C.cx (dk DL_law_5 11 rfl) (by decide) rfl ?_
    refine st_aload_n C.cx (dk DL_law_5 12 rfl) rfl ?_
    refine st_aload_n C.cx (dk DL_law_5 13 rfl) rfl ?_
    refine st_iload C.cx (dk DL_law_5 14 rfl) rfl ?_
    refine st_iconst C.cx (v := 1) (dk DL_law_5 15 rfl) (by decide) ?_
    refine st_iadd C.cx (dk DL_law_5 16 rfl) ?_
    refine st_sld C (dk DL_law_5 17 rfl) h1 e1 ?_
    refine st_cV C.cx (k_X6_stand l G hf hke hk hp) mf_X6_stand mi_X6_stand ml_RL_96 (dk DL_law_5 18 rfl) [34, 37, 35] rfl rfl rfl rfl (Nat.le_of_ble_eq_true rfl) rfl rfl ⟨Nat.le_of_ble_eq_true rfl, Nat.le_of_ble_eq_true rfl⟩ hr1 (fun r8 w8 hq8 => ?_)
    rcases hq8 with ⟨g_1, rfl, rfl⟩ | ⟨jr, g_1, g_2, rfl, f09r, f29r, g_3, g_4, rfl⟩
    · simp only [put_cons, put_nil, List.set_cons_zero, List.set_cons_succ, List.append_nil]
      refine st_istore C.cx (dk DL_law_5 19 rfl) (by decide) rfl ?_
      refine st_aload_n C.cx (dk DL_law_5 20 rfl) rfl ?_
      refine st_cV C.cx (k_X6_thrown l G) mf_X6_thrown mi_X6_thrown ml_RL_80 (dk DL_law_5 21 rfl) [34] rfl rfl rfl rfl (Nat.le_of_ble_eq_true rfl) rfl rfl ⟨Nat.le_of_ble_eq_true rfl, Nat.le_of_ble_eq_true rfl⟩ hr1 (fun r9 w9 hq9 => ?_)
      obtain ⟨rfl, rfl⟩ := hq9
      show P _ _ _ _ _ [_, _, _, _, _, _, _, _, _, _, _, _, _, _, _, _, _, _, _, _, _, _, _, _, _, _, _, _, _, _, _, _, _, _, _, _, _, _, _, _, _, _, _, _, _, _]
      refine st_iload C.cx (dk DL_law_5 22 rfl) rfl ?_
      refine st_icmp_eq C.cx (tgt := 452) (dk DL_law_5 23 rfl) (by decide) (fun c_447 => ?_) (fun c_447 => ?_)
      · refine st_iload C.cx (dk DL_law_5 26 rfl) rfl ?_
        refine st_if_ne C.cx (tgt := 469) (dk DL_law_5 27 rfl) (by decide) (fun c_454 => ?_) (fun c_454 => ?_)
        · refine st_goto C.cx (tgt := 1250) (dk DL_law_5 37 rfl) (by decide) ?_
          refine st_lv C.cx [0, 1, 2, 3, 4] rfl ?_
          refine st_wide C.cx (k' := 46 + (tt + 1)) (n' := 24379 + 6 * (tt + 1)) (by omega) (by omega) ?_
          exact hk9 s k pp n tx ns lk ld os olk old nx sz rs rl rd zz rc en sn nd ln tl ce la cd ke ty 1 ap ft bo ot il f0 f1 f2 f3 f4 qu fr by9 fa fs og ⟨hC, hSv, htl, hn, hcd, hf, hp, hke, hty, ht, hil⟩
        · exact absurd c_454 (by decide)
      · exact absurd rfl c_447
    · have qg_j : isN a1 15 := ⟨jr, g_1, g_2⟩
      exfalso
      first | contradiction | omega
set_option maxHeartbeats 8000000 in
set_option maxRecDepth 100000 in
theorem lc_step {l : Launch} {G : wG} (hlt : l.stackTraces = false) {L : Nat} {xs : Nat → Int32} {P : PT} {nm9 : String} {b K p q1 q2 o o1 o2 v v1 : Nat} {u u1 u2 : Nat → Nat} {t t1 t2 t3 t4 y y1 M : Nat} {A : Nat → Nat} {e : Nat} (C : Cv l G RL cL_law 9 nm9 room_1 (exL b L xs) P) {s : mS} {k : Nat} {pp : Nat → mS} {n : Nat} {tx : Nat → Nat} {ns : Nat → Int32} {lk : Nat → Int32} {ld : Nat → Int32} {os : Nat → Int32} {olk : Nat → Int32} {old : Nat → Int32} {nx : Int32} {sz : Int32} {rs : Nat → Nat → Int32} {rl : Nat → Nat → Int32} {rd : Nat → Nat → Int32} {zz : Int32} {rc : Int32} {en : Nat → Int32} {sn : Nat → Int64} {nd : Nat → Int32} {ln : Nat → Int32} {tl : Int32} {ce : Int32} {la : Int32} {cd : Nat → Int32} {ke : Int32} {ty : Int32} {th : Int32} {ap : Int32} {ft : Int32} {bo : Int32} {ot : Int32} {il : Int32} {f0 : Nat → Int32} {f1 : Nat → Int32} {f2 : Nat → Int32} {f3 : Nat → Int32} {f4 : Nat → Int32} {qu : Nat → Int32} {fr : Nat → Int32} {by9 : Nat → Int32} {fa : Nat → Int32} {fs : Nat → Int32} {og : Nat → Int64} (hI : INV s k pp n tx ns lk ld nx sz rs rl rd tl cd ke ty il f0 f2 f3 qu fr by9 fa fs) {x a1 a2 : Int32} {tt : Nat} (htt : tt < 512) (h1 : vp_in (x + 1) L) (h2 : vp_in (x + 2) L) (e1 : xs (x + 1).toNatClampNeg = a1) (e2 : xs (x + 2).toNatClampNeg = a2) (hk9 : LH P G b K p q1 q2 o o1 o2 v v1 u u1 u2 t t1 t2 t3 t4 y y1 M A e (46 + (tt + 1)) (24379 + 6 * (tt + 1)) x) : P (46 + tt) (24379 + 6 * tt) 472 [(0, .ref b), (1, .ref K), (2, .ref M), (3, .ref e), (4, .int x)] [] [(K, ob 4 (kF p o v t y)), (p, ob 0 (cR q1 q2 ns)), (q1, aI G 15 lk), (q2, aI G 16 ld), (o, ob 0 (cR o1 o2 os)), (o1, aI G 15 olk), (o2, aI G 16 old), (v, ob 1 (vF v1 nx sz)), (v1, aQ G 6 (fun k => some (u k))), (u 0, ob 0 (cR (u1 0) (u2 0) (rs 0))), (u1 0, aI G 15 (rl 0)), (u2 0, aI G 16 (rd 0)), (u 1, ob 0 (cR (u1 1) (u2 1) (rs 1))), (u1 1, aI G 15 (rl 1)), (u2 1, aI G 16 (rd 1)), (u 2, ob 0 (cR (u1 2) (u2 2) (rs 2))), (u1 2, aI G 15 (rl 2)), (u2 2, aI G 16 (rd 2)), (u 3, ob 0 (cR (u1 3) (u2 3) (rs 3))), (u1 3, aI G 15 (rl 3)), (u2 3, aI G 16 (rd 3)), (u 4, ob 0 (cR (u1 4) (u2 4) (rs 4))), (u1 4, aI G 15 (rl 4)), (u2 4, aI G 16 (rd 4)), (u 5, ob 0 (cR (u1 5) (u2 5) (rs 5))), (u1 5, aI G 15 (rl 5)), (u2 5, aI G 16 (rd 5)), (t, ob 2 (sF t1 t2 t3 t4 zz rc)), (t1, aI G 4624 en), (t2, aJ G 256 sn), (t3, aI G 16 nd), (t4, aI G 16 ln), (y, ob 3 (tF y1 tl ce la)), (y1, aI G 60 cd), (M, ob 5 (mF A ke ty th ap ft bo ot il)), (A 0, aI G 53 f0), (A 1, aI G 53 f1), (A 2, aI G 318 f2), (A 3, aI G 60 f3), (A 4, aI G 48 f4), (A 5, aI G 4624 qu), (A 6, aI G 4624 fr), (A 7, aI G 4624 by9), (A 8, aI G 4624 fa), (A 9, aI G 16 fs), (e, aJ G 1 og)] := by
  obtain ⟨hC, hSv, htl, hn, hcd, hf, hp, hke, hty, ht, hil⟩ := hI
  have hok := hC.1
  have hk : k ≤ 6 := by obtain ⟨j9, -, -, -, h9, -⟩ := hSv; exact h9
  have hsz : sz = nI k := by obtain ⟨j9, -, -, h9, -⟩ := hSv; exact h9
  have hr0 : 46 + tt ≤ room_1.cells ∧ 24379 + 6 * tt ≤ room_1.slots := ⟨by show _ ≤ 601024; omega, by show _ ≤ 7293034; omega⟩
  have hr1 : 46 + tt + 1 ≤ room_1.cells ∧ 24379 + 6 * tt + 6 ≤ room_1.slots := ⟨by show _ ≤ 601024; omega, by show _ ≤ 7293034; omega⟩
  refine st_aload_n C.cx (dk DL_law_5 38 rfl) rfl ?_
  refine st_aload_n C.cx (dk DL_law_5 39 rfl) rfl ?_
  refine st_iload C.cx (dk DL_law_6 0 rfl) rfl ?_
  refine st_iconst C.cx (v := 1) (dk DL_law_6 1 rfl) (by decide) ?_
  refine st_iadd C.cx (dk DL_law_6 2 rfl) ?_
  refine st_sld C (dk DL_law_6 3 rfl) h1 e1 ?_
  refine st_aload_n C.cx (dk DL_law_6 4 rfl) rfl ?_
  refine st_callH (fun _ _ _ _ h => h.1) C (kw_step l G hlt hC hSv) mw_L_step ms_L_step mq_RL_97 (dk DL_law_6 5 rfl) [0, 1, 2, 3, 7, 8, 9, 10, 11, 12, 13, 14, 15, 16, 17, 18, 19, 20, 21, 22, 23, 24, 25, 26, 45] (hC_cons rfl (hC_cons rfl (hC_cons rfl (hC_cons rfl (hC_cons rfl (hC_cons rfl (hC_cons rfl (hC_cons rfl (hC_cons rfl (hC_cons rfl (hC_cons rfl (hC_cons rfl (hC_cons rfl (hC_cons rfl (hC_cons rfl (hC_cons rfl (hC_cons rfl (hC_cons rfl (hC_cons rfl (hC_cons rfl (hC_cons rfl (hC_cons rfl (hC_cons rfl (hC_cons rfl (hC_cons rfl (hC_nil)))))))))))))))))))))))))) (by decide +kernel) rfl rfl (Nat.le_of_ble_eq_true rfl) ⟨Nat.le_of_ble_eq_true rfl, Nat.le_of_ble_eq_true rfl⟩ hr1 (fun r9 w9 v9 hq9 => ?_)
  obtain ⟨rfl, hu⟩ := hq9
  rcases hu with ⟨st, h_1, h_2, h_3, rfl, ns9, lk9, ld9, nx9, sz9, rs9, rl9, rd9, h_4, h_5, rfl⟩ | ⟨rfl, h_1, rfl⟩ | ⟨rfl, st, h_1, h_2, h_3, rfl⟩
  · simp only [put_cons, put_nil, List.set_cons_zero, List.set_cons_succ, List.append_nil]
    have qh_st : isN a1 4 := ⟨st, h_1, h_2⟩
    refine st_istore C.cx (dk DL_law_6 6 rfl) (by decide) rfl ?_
    refine st_aload_n C.cx (dk DL_law_6 7 rfl) rfl ?_
    refine st_aload_n C.cx (dk DL_law_6 8 rfl) rfl ?_
    refine st_iload C.cx (dk DL_law_6 9 rfl) rfl ?_
    refine st_iconst C.cx (v := 1) (dk DL_law_6 10 rfl) (by decide) ?_
    refine st_iadd C.cx (dk DL_law_6 11 rfl) ?_
    refine st_sld C (dk DL_law_6 12 rfl) h1 e1 ?_
    refine st_cV C.cx (k_X6_step l G hf hke hk hp hok) mf_X6_step mi_X6_step ml_RL_99 (dk DL_law_6 13 rfl) [34, 37, 35] rfl rfl rfl rfl (Nat.le_of_ble_eq_true rfl) rfl rfl ⟨Nat.le_of_ble_eq_true rfl, Nat.le_of_ble_eq_true rfl⟩ hr1 (fun r8 w8 hq8 => ?_)
    rcases hq8 with ⟨g_1, rfl, rfl⟩ | ⟨str, g_1, g_2, g_3, rfl, rfl⟩ | ⟨str, g_1, g_2, g_3, rfl, f09r, f29r, g_4, g_5, rfl⟩
    · exfalso
      first | contradiction | omega
    · have qg_st : isN a1 4 := ⟨str, g_1, g_2⟩
      obtain rfl := (u_nI h_2 g_2 (by omega) (by omega)).symm
      exfalso
      first | contradiction | omega
    · have qg_st : isN a1 4 := ⟨str, g_1, g_2⟩
      obtain rfl := (u_nI h_2 g_2 (by omega) (by omega)).symm
      simp only [put_cons, put_nil, List.set_cons_zero, List.set_cons_succ, List.append_nil]
      refine st_istore C.cx (dk DL_law_6 14 rfl) (by decide) rfl ?_
      refine st_aload_n C.cx (dk DL_law_6 15 rfl) rfl ?_
      refine st_cV C.cx (k_X6_thrown l G) mf_X6_thrown mi_X6_thrown ml_RL_80 (dk DL_law_6 16 rfl) [34] rfl rfl rfl rfl (Nat.le_of_ble_eq_true rfl) rfl rfl ⟨Nat.le_of_ble_eq_true rfl, Nat.le_of_ble_eq_true rfl⟩ hr1 (fun r9 w9 hq9 => ?_)
      obtain ⟨rfl, rfl⟩ := hq9
      show P _ _ _ _ _ [_, _, _, _, _, _, _, _, _, _, _, _, _, _, _, _, _, _, _, _, _, _, _, _, _, _, _, _, _, _, _, _, _, _, _, _, _, _, _, _, _, _, _, _, _, _]
      refine st_iload C.cx (dk DL_law_6 17 rfl) rfl ?_
      refine st_icmp_eq C.cx (tgt := 508) (dk DL_law_6 18 rfl) (by decide) (fun c_503 => ?_) (fun c_503 => ?_)
      · refine st_iload C.cx (dk DL_law_6 21 rfl) rfl ?_
        refine st_if_ne C.cx (tgt := 525) (dk DL_law_6 22 rfl) (by decide) (fun c_510 => ?_) (fun c_510 => ?_)
        · exact absurd rfl c_510
        · refine st_aload_n C.cx (dk DL_law_6 23 rfl) rfl ?_
          refine st_iconst C.cx (v := 0) (dk DL_law_6 24 rfl) (by decide) ?_
          refine st_lald C.cx (dk DL_law_6 25 rfl) 45 rfl (by unfold vp_in; decide) ?_
          refine st_iload C.cx (dk DL_law_6 26 rfl) rfl ?_
          refine st_i2l C.cx (dk DL_law_6 27 rfl) ?_
          refine st_lcmp C.cx (dk DL_law_6 28 rfl) ?_
          refine st_if_eq C.cx (tgt := 525) (dk DL_law_6 29 rfl) (by decide) (fun c_520 => ?_) (fun c_520 => ?_)
          · refine st_goto C.cx (tgt := 1250) (dk DL_law_6 32 rfl) (by decide) ?_
            refine st_lv C.cx [0, 1, 2, 3, 4] rfl ?_
            refine st_wide C.cx (k' := 46 + (tt + 1)) (n' := 24379 + 6 * (tt + 1)) (by omega) (by omega) ?_
            exact hk9 (goN s st) (svK k) (svP s k pp) n tx ns9 lk9 ld9 os olk old nx9 sz9 rs9 rl9 rd9 zz rc en sn nd ln tl ce la cd (nI (svK k)) ty 0 ap ft bo ot 0 f09r f1 f29r f3 f4 qu fr by9 fa fs (vp_updL og 0 (Int32.toInt64 (nI (goN s st 1)))) ⟨h_4, h_5, htl, hn, hcd, g_4, g_5, rfl, hty, ht, Or.inl rfl⟩
          · exact absurd ((lg_cmp0 _ _).mpr rfl) c_520
      · exact absurd rfl c_503
  · simp only [put_cons, put_nil, List.set_cons_zero, List.set_cons_succ, List.append_nil]
    refine st_istore C.cx (dk DL_law_6 6 rfl) (by decide) rfl ?_
    refine st_aload_n C.cx (dk DL_law_6 7 rfl) rfl ?_
    refine st_aload_n C.cx (dk DL_law_6 8 rfl) rfl ?_
    refine st_iload C.cx (dk DL_law_6 9 rfl) rfl ?_
    refine st_iconst C.cx (v := 1) (dk DL_law_6 10 rfl) (by decide) ?_
    refine st_iadd C.cx (dk DL_law_6 11 rfl) ?_
    refine st_sld C (dk DL_law_6 12 rfl) h1 e1 ?_
    refine st_cV C.cx (k_X6_step l G hf hke hk hp hok) mf_X6_step mi_X6_step ml_RL_99 (dk DL_law_6 13 rfl) [34, 37, 35] rfl rfl rfl rfl (Nat.le_of_ble_eq_true rfl) rfl rfl ⟨Nat.le_of_ble_eq_true rfl, Nat.le_of_ble_eq_true rfl⟩ hr1 (fun r8 w8 hq8 => ?_)
    rcases hq8 with ⟨g_1, rfl, rfl⟩ | ⟨str, g_1, g_2, g_3, rfl, rfl⟩ | ⟨str, g_1, g_2, g_3, rfl, f09r, f29r, g_4, g_5, rfl⟩
    · simp only [put_cons, put_nil, List.set_cons_zero, List.set_cons_succ, List.append_nil]
      refine st_istore C.cx (dk DL_law_6 14 rfl) (by decide) rfl ?_
      refine st_aload_n C.cx (dk DL_law_6 15 rfl) rfl ?_
      refine st_cV C.cx (k_X6_thrown l G) mf_X6_thrown mi_X6_thrown ml_RL_80 (dk DL_law_6 16 rfl) [34] rfl rfl rfl rfl (Nat.le_of_ble_eq_true rfl) rfl rfl ⟨Nat.le_of_ble_eq_true rfl, Nat.le_of_ble_eq_true rfl⟩ hr1 (fun r9 w9 hq9 => ?_)
      obtain ⟨rfl, rfl⟩ := hq9
      show P _ _ _ _ _ [_, _, _, _, _, _, _, _, _, _, _, _, _, _, _, _, _, _, _, _, _, _, _, _, _, _, _, _, _, _, _, _, _, _, _, _, _, _, _, _, _, _, _, _, _, _]
      refine st_iload C.cx (dk DL_law_6 17 rfl) rfl ?_
      refine st_icmp_eq C.cx (tgt := 508) (dk DL_law_6 18 rfl) (by decide) (fun c_503 => ?_) (fun c_503 => ?_)
      · refine st_iload C.cx (dk DL_law_6 21 rfl) rfl ?_
        refine st_if_ne C.cx (tgt := 525) (dk DL_law_6 22 rfl) (by decide) (fun c_510 => ?_) (fun c_510 => ?_)
        · refine st_goto C.cx (tgt := 1250) (dk DL_law_6 32 rfl) (by decide) ?_
          refine st_lv C.cx [0, 1, 2, 3, 4] rfl ?_
          refine st_wide C.cx (k' := 46 + (tt + 1)) (n' := 24379 + 6 * (tt + 1)) (by omega) (by omega) ?_
          exact hk9 s k pp n tx ns lk ld os olk old nx sz rs rl rd zz rc en sn nd ln tl ce la cd ke ty 1 ap ft bo ot il f0 f1 f2 f3 f4 qu fr by9 fa fs og ⟨hC, hSv, htl, hn, hcd, hf, hp, hke, hty, ht, hil⟩
        · exact absurd c_510 (by decide)
      · exact absurd rfl c_503
    · have qg_st : isN a1 4 := ⟨str, g_1, g_2⟩
      exfalso
      first | contradiction | omega
    · have qg_st : isN a1 4 := ⟨str, g_1, g_2⟩
      exfalso
      first | contradiction | omega
  · simp only [put_cons, put_nil, List.set_cons_zero, List.set_cons_succ, List.append_nil]
    have qh_st : isN a1 4 := ⟨st, h_1, h_2⟩
    refine st_istore C.cx (dk DL_law_6 6 rfl) (by decide) rfl ?_
    refine st_aload_n C.cx (dk DL_law_6 7 rfl) rfl ?_
    refine st_aload_n C.cx (dk DL_law_6 8 rfl) rfl ?_
    refine st_iload C.cx (dk DL_law_6 9 rfl) rfl ?_
    refine st_iconst C.cx (v := 1) (dk DL_law_6 10 rfl) (by decide) ?_
    refine st_iadd C.cx (dk DL_law_6 11 rfl) ?_
    refine st_sld C (dk DL_law_6 12 rfl) h1 e1 ?_
    refine st_cV C.cx (k_X6_step l G hf hke hk hp hok) mf_X6_step mi_X6_step ml_RL_99 (dk DL_law_6 13 rfl) [34, 37, 35] rfl rfl rfl rfl (Nat.le_of_ble_eq_true rfl) rfl rfl ⟨Nat.le_of_ble_eq_true rfl, Nat.le_of_ble_eq_true rfl⟩ hr1 (fun r8 w8 hq8 => ?_)
    rcases hq8 with ⟨g_1, rfl, rfl⟩ | ⟨str, g_1, g_2, g_3, rfl, rfl⟩ | ⟨str, g_1, g_2, g_3, rfl, f09r, f29r, g_4, g_5, rfl⟩
    · exfalso
      first | contradiction | omega
    · have qg_st : isN a1 4 := ⟨str, g_1, g_2⟩
      obtain rfl := (u_nI h_2 g_2 (by omega) (by omega)).symm
      simp only [put_cons, put_nil, List.set_cons_zero, List.set_cons_succ, List.append_nil]
      refine st_istore C.cx (dk DL_law_6 14 rfl) (by decide) rfl ?_
      refine st_aload_n C.cx (dk DL_law_6 15 rfl) rfl ?_
      refine st_cV C.cx (k_X6_thrown l G) mf_X6_thrown mi_X6_thrown ml_RL_80 (dk DL_law_6 16 rfl) [34] rfl rfl rfl rfl (Nat.le_of_ble_eq_true rfl) rfl rfl ⟨Nat.le_of_ble_eq_true rfl, Nat.le_of_ble_eq_true rfl⟩ hr1 (fun r9 w9 hq9 => ?_)
      obtain ⟨rfl, rfl⟩ := hq9
      show P _ _ _ _ _ [_, _, _, _, _, _, _, _, _, _, _, _, _, _, _, _, _, _, _, _, _, _, _, _, _, _, _, _, _, _, _, _, _, _, _, _, _, _, _, _, _, _, _, _, _, _]
      refine st_iload C.cx (dk DL_law_6 17 rfl) rfl ?_
      refine st_icmp_eq C.cx (tgt := 508) (dk DL_law_6 18 rfl) (by decide) (fun c_503 => ?_) (fun c_503 => ?_)
      · refine st_iload C.cx (dk DL_law_6 21 rfl) rfl ?_
        refine st_if_ne C.cx (tgt := 525) (dk DL_law_6 22 rfl) (by decide) (fun c_510 => ?_) (fun c_510 => ?_)
        · refine st_goto C.cx (tgt := 1250) (dk DL_law_6 32 rfl) (by decide) ?_
          refine st_lv C.cx [0, 1, 2, 3, 4] rfl ?_
          refine st_wide C.cx (k' := 46 + (tt + 1)) (n' := 24379 + 6 * (tt + 1)) (by omega) (by omega) ?_
          exact hk9 s k pp n tx ns lk ld os olk old nx sz rs rl rd zz rc en sn nd ln tl ce la cd ke ty 2 ap ft bo ot il f0 f1 f2 f3 f4 qu fr by9 fa fs og ⟨hC, hSv, htl, hn, hcd, hf, hp, hke, hty, ht, hil⟩
        · exact absurd c_510 (by decide)
      · exact absurd rfl c_503
    · have qg_st : isN a1 4 := ⟨str, g_1, g_2⟩
      obtain rfl := (u_nI h_2 g_2 (by omega) (by omega)).symm
      exfalso
      first | contradiction | omega
set_option maxHeartbeats 8000000 in
set_option maxRecDepth 100000 in
theorem lc_walk {l : Launch} {G : wG} (hlt : l.stackTraces = false) {L : Nat} {xs : Nat → Int32} {P : PT} {nm9 : String} {b K p q1 q2 o o1 o2 v v1 : Nat} {u u1 u2 : Nat → Nat} {t t1 t2 t3 t4 y y1 M : Nat} {A : Nat → Nat} {e : Nat} (C : Cv l G RL cL_law 9 nm9 room_1 (exL b L xs) P) {s : mS} {k : Nat} {pp : Nat → mS} {n : Nat} {tx : Nat → Nat} {ns : Nat → Int32} {lk : Nat → Int32} {ld : Nat → Int32} {os : Nat → Int32} {olk : Nat → Int32} {old : Nat → Int32} {nx : Int32} {sz : Int32} {rs : Nat → Nat → Int32} {rl : Nat → Nat → Int32} {rd : Nat → Nat → Int32} {zz : Int32} {rc : Int32} {en : Nat → Int32} {sn : Nat → Int64} {nd : Nat → Int32} {ln : Nat → Int32} {tl : Int32} {ce : Int32} {la : Int32} {cd : Nat → Int32} {ke : Int32} {ty : Int32} {th : Int32} {ap : Int32} {ft : Int32} {bo : Int32} {ot : Int32} {il : Int32} {f0 : Nat → Int32} {f1 : Nat → Int32} {f2 : Nat → Int32} {f3 : Nat → Int32} {f4 : Nat → Int32} {qu : Nat → Int32} {fr : Nat → Int32} {by9 : Nat → Int32} {fa : Nat → Int32} {fs : Nat → Int32} {og : Nat → Int64} (hI : INV s k pp n tx ns lk ld nx sz rs rl rd tl cd ke ty il f0 f2 f3 qu fr by9 fa fs) {x a1 a2 : Int32} {tt : Nat} (htt : tt < 512) (h1 : vp_in (x + 1) L) (h2 : vp_in (x + 2) L) (e1 : xs (x + 1).toNatClampNeg = a1) (e2 : xs (x + 2).toNatClampNeg = a2) (hk9 : LH P G b K p q1 q2 o o1 o2 v v1 u u1 u2 t t1 t2 t3 t4 y y1 M A e (46 + (tt + 1)) (24379 + 6 * (tt + 1)) x) : P (46 + tt) (24379 + 6 * tt) 528 [(0, .ref b), (1, .ref K), (2, .ref M), (3, .ref e), (4, .int x)] [] [(K, ob 4 (kF p o v t y)), (p, ob 0 (cR q1 q2 ns)), (q1, aI G 15 lk), (q2, aI G 16 ld), (o, ob 0 (cR o1 o2 os)), (o1, aI G 15 olk), (o2, aI G 16 old), (v, ob 1 (vF v1 nx sz)), (v1, aQ G 6 (fun k => some (u k))), (u 0, ob 0 (cR (u1 0) (u2 0) (rs 0))), (u1 0, aI G 15 (rl 0)), (u2 0, aI G 16 (rd 0)), (u 1, ob 0 (cR (u1 1) (u2 1) (rs 1))), (u1 1, aI G 15 (rl 1)), (u2 1, aI G 16 (rd 1)), (u 2, ob 0 (cR (u1 2) (u2 2) (rs 2))), (u1 2, aI G 15 (rl 2)), (u2 2, aI G 16 (rd 2)), (u 3, ob 0 (cR (u1 3) (u2 3) (rs 3))), (u1 3, aI G 15 (rl 3)), (u2 3, aI G 16 (rd 3)), (u 4, ob 0 (cR (u1 4) (u2 4) (rs 4))), (u1 4, aI G 15 (rl 4)), (u2 4, aI G 16 (rd 4)), (u 5, ob 0 (cR (u1 5) (u2 5) (rs 5))), (u1 5, aI G 15 (rl 5)), (u2 5, aI G 16 (rd 5)), (t, ob 2 (sF t1 t2 t3 t4 zz rc)), (t1, aI G 4624 en), (t2, aJ G 256 sn), (t3, aI G 16 nd), (t4, aI G 16 ln), (y, ob 3 (tF y1 tl ce la)), (y1, aI G 60 cd), (M, ob 5 (mF A ke ty th ap ft bo ot il)), (A 0, aI G 53 f0), (A 1, aI G 53 f1), (A 2, aI G 318 f2), (A 3, aI G 60 f3), (A 4, aI G 48 f4), (A 5, aI G 4624 qu), (A 6, aI G 4624 fr), (A 7, aI G 4624 by9), (A 8, aI G 4624 fa), (A 9, aI G 16 fs), (e, aJ G 1 og)] := by
  obtain ⟨hC, hSv, htl, hn, hcd, hf, hp, hke, hty, ht, hil⟩ := hI
  have hok := hC.1
  have hk : k ≤ 6 := by obtain ⟨j9, -, -, -, h9, -⟩ := hSv; exact h9
  have hsz : sz = nI k := by obtain ⟨j9, -, -, h9, -⟩ := hSv; exact h9
  have hr0 : 46 + tt ≤ room_1.cells ∧ 24379 + 6 * tt ≤ room_1.slots := ⟨by show _ ≤ 601024; omega, by show _ ≤ 7293034; omega⟩
  have hr1 : 46 + tt + 1 ≤ room_1.cells ∧ 24379 + 6 * tt + 6 ≤ room_1.slots := ⟨by show _ ≤ 601024; omega, by show _ ≤ 7293034; omega⟩
  obtain ⟨k1, k2, g1, g2, hkp, -⟩ := id hC.2.2.2.2
  refine st_aload_n C.cx (dk DL_law_6 33 rfl) rfl ?_
  refine st_aload_n C.cx (dk DL_law_6 34 rfl) rfl ?_
  refine st_iload C.cx (dk DL_law_6 35 rfl) rfl ?_
  refine st_iconst C.cx (v := 1) (dk DL_law_6 36 rfl) (by decide) ?_
  refine st_iadd C.cx (dk DL_law_6 37 rfl) ?_
  refine st_sld C (dk DL_law_6 38 rfl) h1 e1 ?_
  refine st_aload_n C.cx (dk DL_law_6 39 rfl) rfl ?_
  refine st_callH (fun _ _ _ _ h => h.1) C (kw_walk l G hlt hC hSv) mw_L_walk ms_L_walk mq_RL_100 (dk DL_law_7 0 rfl) [0, 1, 2, 3, 7, 8, 9, 10, 11, 12, 13, 14, 15, 16, 17, 18, 19, 20, 21, 22, 23, 24, 25, 26, 27, 28, 29, 30, 31, 45] (hC_cons rfl (hC_cons rfl (hC_cons rfl (hC_cons rfl (hC_cons rfl (hC_cons rfl (hC_cons rfl (hC_cons rfl (hC_cons rfl (hC_cons rfl (hC_cons rfl (hC_cons rfl (hC_cons rfl (hC_cons rfl (hC_cons rfl (hC_cons rfl (hC_cons rfl (hC_cons rfl (hC_cons rfl (hC_cons rfl (hC_cons rfl (hC_cons rfl (hC_cons rfl (hC_cons rfl (hC_cons rfl (hC_cons rfl (hC_cons rfl (hC_cons rfl (hC_cons rfl (hC_cons rfl (hC_nil))))))))))))))))))))))))))))))) (by decide +kernel) rfl rfl (Nat.le_of_ble_eq_true rfl) ⟨Nat.le_of_ble_eq_true rfl, Nat.le_of_ble_eq_true rfl⟩ hr1 (fun r9 w9 v9 hq9 => ?_)
  obtain ⟨rfl, hu⟩ := hq9
  rcases hu with ⟨j, q, h_1, h_2, h_3, rfl, ns9, lk9, ld9, nx9, sz9, rs9, rl9, rd9, zz9, rc9, en9, sn9, nd9, ln9, h_4, h_5, rfl⟩ | ⟨rfl, h_1, rfl⟩ | ⟨rfl, j, h_1, h_2, h_3, zz9, rc9, en9, sn9, nd9, ln9, rfl⟩
  · simp only [put_cons, put_nil, List.set_cons_zero, List.set_cons_succ, List.append_nil]
    have qh_j : isN a1 15 := ⟨j, h_1, h_2⟩
    refine st_istore C.cx (dk DL_law_7 1 rfl) (by decide) rfl ?_
    refine st_aload_n C.cx (dk DL_law_7 2 rfl) rfl ?_
    refine st_aload_n C.cx (dk DL_law_7 3 rfl) rfl ?_
    refine st_iload C.cx (dk DL_law_7 4 rfl) rfl ?_
    refine st_iconst C.cx (v := 1) (dk DL_law_7 5 rfl) (by decide) ?_
    refine st_iadd C.cx (dk DL_law_7 6 rfl) ?_
    refine st_sld C (dk DL_law_7 7 rfl) h1 e1 ?_
    refine st_cV C.cx (k_X6_walk l G hf hok hil hke hk hp hkp) mf_X6_walk mi_X6_walk ml_RL_102 (dk DL_law_7 8 rfl) [34, 35, 37, 40, 41, 42, 43, 44] rfl rfl rfl rfl (Nat.le_of_ble_eq_true rfl) rfl rfl ⟨Nat.le_of_ble_eq_true rfl, Nat.le_of_ble_eq_true rfl⟩ hr1 (fun r8 w8 hq8 => ?_)
    rcases hq8 with ⟨g_1, rfl, rfl⟩ | ⟨jr, g_1, g_2, g_3, rfl, bo9r, ot9r, qu9r, fr9r, by99r, fa9r, fs9r, g_4, rfl⟩ | ⟨jr, qr, g_1, g_2, g_3, rfl, bo9r, ot9r, f09r, f29r, qu9r, fr9r, by99r, fa9r, fs9r, g_4, g_5, rfl⟩
    · exfalso
      first | contradiction | omega
    · have qg_j : isN a1 15 := ⟨jr, g_1, g_2⟩
      obtain rfl := (u_nI h_2 g_2 (by omega) (by omega)).symm
      exfalso
      first | contradiction | omega | cases h_3.symm.trans g_3
    · have qg_j : isN a1 15 := ⟨jr, g_1, g_2⟩
      obtain rfl := (u_nI h_2 g_2 (by omega) (by omega)).symm
      obtain rfl := Option.some.inj (h_3.symm.trans g_3)
      simp only [put_cons, put_nil, List.set_cons_zero, List.set_cons_succ, List.append_nil]
      refine st_istore C.cx (dk DL_law_7 9 rfl) (by decide) rfl ?_
      refine st_aload_n C.cx (dk DL_law_7 10 rfl) rfl ?_
      refine st_cV C.cx (k_X6_thrown l G) mf_X6_thrown mi_X6_thrown ml_RL_80 (dk DL_law_7 11 rfl) [34] rfl rfl rfl rfl (Nat.le_of_ble_eq_true rfl) rfl rfl ⟨Nat.le_of_ble_eq_true rfl, Nat.le_of_ble_eq_true rfl⟩ hr1 (fun r9 w9 hq9 => ?_)
      obtain ⟨rfl, rfl⟩ := hq9
      show P _ _ _ _ _ [_, _, _, _, _, _, _, _, _, _, _, _, _, _, _, _, _, _, _, _, _, _, _, _, _, _, _, _, _, _, _, _, _, _, _, _, _, _, _, _, _, _, _, _, _, _]
      refine st_iload C.cx (dk DL_law_7 12 rfl) rfl ?_
      refine st_icmp_eq C.cx (tgt := 564) (dk DL_law_7 13 rfl) (by decide) (fun c_559 => ?_) (fun c_559 => ?_)
      · refine st_iload C.cx (dk DL_law_7 16 rfl) rfl ?_
        refine st_if_ne C.cx (tgt := 581) (dk DL_law_7 17 rfl) (by decide) (fun c_566 => ?_) (fun c_566 => ?_)
        · exact absurd rfl c_566
        · refine st_aload_n C.cx (dk DL_law_7 18 rfl) rfl ?_
          refine st_iconst C.cx (v := 0) (dk DL_law_7 19 rfl) (by decide) ?_
          refine st_lald C.cx (dk DL_law_7 20 rfl) 45 rfl (by unfold vp_in; decide) ?_
          refine st_iload C.cx (dk DL_law_7 21 rfl) rfl ?_
          refine st_i2l C.cx (dk DL_law_7 22 rfl) ?_
          refine st_lcmp C.cx (dk DL_law_7 23 rfl) ?_
          refine st_if_eq C.cx (tgt := 581) (dk DL_law_7 24 rfl) (by decide) (fun c_576 => ?_) (fun c_576 => ?_)
          · refine st_goto C.cx (tgt := 1250) (dk DL_law_7 27 rfl) (by decide) ?_
            refine st_lv C.cx [0, 1, 2, 3, 4] rfl ?_
            refine st_wide C.cx (k' := 46 + (tt + 1)) (n' := 24379 + 6 * (tt + 1)) (by omega) (by omega) ?_
            exact hk9 (wkS (fS s) j s (dst (fS s) q)) (svK k) (svP s k pp) n tx ns9 lk9 ld9 os olk old nx9 sz9 rs9 rl9 rd9 zz9 rc9 en9 sn9 nd9 ln9 tl ce la cd (nI (svK k)) ty 0 ap ft bo9r ot9r 0 f09r f1 f29r f3 f4 qu9r fr9r by99r fa9r fs9r (vp_updL og 0 (Int32.toInt64 (nI (dst (fS s) q)))) ⟨h_4, h_5, htl, hn, hcd, g_4, g_5, rfl, hty, ht, Or.inl rfl⟩
          · exact absurd ((lg_cmp0 _ _).mpr rfl) c_576
      · exact absurd rfl c_559
  · simp only [put_cons, put_nil, List.set_cons_zero, List.set_cons_succ, List.append_nil]
    refine st_istore C.cx (dk DL_law_7 1 rfl) (by decide) rfl ?_
    refine st_aload_n C.cx (dk DL_law_7 2 rfl) rfl ?_
    refine st_aload_n C.cx (dk DL_law_7 3 rfl) rfl ?_
    refine st_iload C.cx (dk DL_law_7 4 rfl) rfl ?_
    refine st_iconst C.cx (v := 1) (dk DL_law_7 5 rfl) (by decide) ?_
    refine st_iadd C.cx (dk DL_law_7 6 rfl) ?_
    refine st_sld C (dk DL_law_7 7 rfl) h1 e1 ?_
    refine st_cV C.cx (k_X6_walk l G hf hok hil hke hk hp hkp) mf_X6_walk mi_X6_walk ml_RL_102 (dk DL_law_7 8 rfl) [34, 35, 37, 40, 41, 42, 43, 44] rfl rfl rfl rfl (Nat.le_of_ble_eq_true rfl) rfl rfl ⟨Nat.le_of_ble_eq_true rfl, Nat.le_of_ble_eq_true rfl⟩ hr1 (fun r8 w8 hq8 => ?_)
    rcases hq8 with ⟨g_1, rfl, rfl⟩ | ⟨jr, g_1, g_2, g_3, rfl, bo9r, ot9r, qu9r, fr9r, by99r, fa9r, fs9r, g_4, rfl⟩ | ⟨jr, qr, g_1, g_2, g_3, rfl, bo9r, ot9r, f09r, f29r, qu9r, fr9r, by99r, fa9r, fs9r, g_4, g_5, rfl⟩
    · simp only [put_cons, put_nil, List.set_cons_zero, List.set_cons_succ, List.append_nil]
      refine st_istore C.cx (dk DL_law_7 9 rfl) (by decide) rfl ?_
      refine st_aload_n C.cx (dk DL_law_7 10 rfl) rfl ?_
      refine st_cV C.cx (k_X6_thrown l G) mf_X6_thrown mi_X6_thrown ml_RL_80 (dk DL_law_7 11 rfl) [34] rfl rfl rfl rfl (Nat.le_of_ble_eq_true rfl) rfl rfl ⟨Nat.le_of_ble_eq_true rfl, Nat.le_of_ble_eq_true rfl⟩ hr1 (fun r9 w9 hq9 => ?_)
      obtain ⟨rfl, rfl⟩ := hq9
      show P _ _ _ _ _ [_, _, _, _, _, _, _, _, _, _, _, _, _, _, _, _, _, _, _, _, _, _, _, _, _, _, _, _, _, _, _, _, _, _, _, _, _, _, _, _, _, _, _, _, _, _]
      refine st_iload C.cx (dk DL_law_7 12 rfl) rfl ?_
      refine st_icmp_eq C.cx (tgt := 564) (dk DL_law_7 13 rfl) (by decide) (fun c_559 => ?_) (fun c_559 => ?_)
      · refine st_iload C.cx (dk DL_law_7 16 rfl) rfl ?_
        refine st_if_ne C.cx (tgt := 581) (dk DL_law_7 17 rfl) (by decide) (fun c_566 => ?_) (fun c_566 => ?_)
        · refine st_goto C.cx (tgt := 1250) (dk DL_law_7 27 rfl) (by decide) ?_
          refine st_lv C.cx [0, 1, 2, 3, 4] rfl ?_
          refine st_wide C.cx (k' := 46 + (tt + 1)) (n' := 24379 + 6 * (tt + 1)) (by omega) (by omega) ?_
          exact hk9 s k pp n tx ns lk ld os olk old nx sz rs rl rd zz rc en sn nd ln tl ce la cd ke ty 1 ap ft bo ot il f0 f1 f2 f3 f4 qu fr by9 fa fs og ⟨hC, hSv, htl, hn, hcd, hf, hp, hke, hty, ht, hil⟩
        · exact absurd c_566 (by decide)
      · exact absurd rfl c_559
    · have qg_j : isN a1 15 := ⟨jr, g_1, g_2⟩
      exfalso
      first | contradiction | omega
    · have qg_j : isN a1 15 := ⟨jr, g_1, g_2⟩
      exfalso
      first | contradiction | omega
  · simp only [put_cons, put_nil, List.set_cons_zero, List.set_cons_succ, List.append_nil]
    have qh_j : isN a1 15 := ⟨j, h_1, h_2⟩
    refine st_istore C.cx (dk DL_law_7 1 rfl) (by decide) rfl ?_
    refine st_aload_n C.cx (dk DL_law_7 2 rfl) rfl ?_
    refine st_aload_n C.cx (dk DL_law_7 3 rfl) rfl ?_
    refine st_iload C.cx (dk DL_law_7 4 rfl) rfl ?_
    refine st_iconst C.cx (v := 1) (dk DL_law_7 5 rfl) (by decide) ?_
    refine st_iadd C.cx (dk DL_law_7 6 rfl) ?_
    refine st_sld C (dk DL_law_7 7 rfl) h1 e1 ?_
    refine st_cV C.cx (k_X6_walk l G hf hok hil hke hk hp hkp) mf_X6_walk mi_X6_walk ml_RL_102 (dk DL_law_7 8 rfl) [34, 35, 37, 40, 41, 42, 43, 44] rfl rfl rfl rfl (Nat.le_of_ble_eq_true rfl) rfl rfl ⟨Nat.le_of_ble_eq_true rfl, Nat.le_of_ble_eq_true rfl⟩ hr1 (fun r8 w8 hq8 => ?_)
    rcases hq8 with ⟨g_1, rfl, rfl⟩ | ⟨jr, g_1, g_2, g_3, rfl, bo9r, ot9r, qu9r, fr9r, by99r, fa9r, fs9r, g_4, rfl⟩ | ⟨jr, qr, g_1, g_2, g_3, rfl, bo9r, ot9r, f09r, f29r, qu9r, fr9r, by99r, fa9r, fs9r, g_4, g_5, rfl⟩
    · exfalso
      first | contradiction | omega
    · have qg_j : isN a1 15 := ⟨jr, g_1, g_2⟩
      obtain rfl := (u_nI h_2 g_2 (by omega) (by omega)).symm
      simp only [put_cons, put_nil, List.set_cons_zero, List.set_cons_succ, List.append_nil]
      refine st_istore C.cx (dk DL_law_7 9 rfl) (by decide) rfl ?_
      refine st_aload_n C.cx (dk DL_law_7 10 rfl) rfl ?_
      refine st_cV C.cx (k_X6_thrown l G) mf_X6_thrown mi_X6_thrown ml_RL_80 (dk DL_law_7 11 rfl) [34] rfl rfl rfl rfl (Nat.le_of_ble_eq_true rfl) rfl rfl ⟨Nat.le_of_ble_eq_true rfl, Nat.le_of_ble_eq_true rfl⟩ hr1 (fun r9 w9 hq9 => ?_)
      obtain ⟨rfl, rfl⟩ := hq9
      show P _ _ _ _ _ [_, _, _, _, _, _, _, _, _, _, _, _, _, _, _, _, _, _, _, _, _, _, _, _, _, _, _, _, _, _, _, _, _, _, _, _, _, _, _, _, _, _, _, _, _, _]
      refine st_iload C.cx (dk DL_law_7 12 rfl) rfl ?_
      refine st_icmp_eq C.cx (tgt := 564) (dk DL_law_7 13 rfl) (by decide) (fun c_559 => ?_) (fun c_559 => ?_)
      · refine st_iload C.cx (dk DL_law_7 16 rfl) rfl ?_
        refine st_if_ne C.cx (tgt := 581) (dk DL_law_7 17 rfl) (by decide) (fun c_566 => ?_) (fun c_566 => ?_)
        · refine st_goto C.cx (tgt := 1250) (dk DL_law_7 27 rfl) (by decide) ?_
          refine st_lv C.cx [0, 1, 2, 3, 4] rfl ?_
          refine st_wide C.cx (k' := 46 + (tt + 1)) (n' := 24379 + 6 * (tt + 1)) (by omega) (by omega) ?_
          exact hk9 s k pp n tx ns lk ld os olk old nx sz rs rl rd zz9 rc9 en9 sn9 nd9 ln9 tl ce la cd ke ty 2 ap ft bo9r ot9r 1 f0 f1 f2 f3 f4 qu9r fr9r by99r fa9r fs9r og ⟨hC, hSv, htl, hn, hcd, hf, hp, hke, hty, ht, Or.inr ⟨rfl, g_4⟩⟩
        · exact absurd c_566 (by decide)
      · exact absurd rfl c_559
    · have qg_j : isN a1 15 := ⟨jr, g_1, g_2⟩
      obtain rfl := (u_nI h_2 g_2 (by omega) (by omega)).symm
      exfalso
      first | contradiction | omega | cases h_3.symm.trans g_3
set_option maxHeartbeats 8000000 in
set_option maxRecDepth 100000 in
theorem lc_append {l : Launch} {G : wG} (hlt : l.stackTraces = false) {L : Nat} {xs : Nat → Int32} {P : PT} {nm9 : String} {b K p q1 q2 o o1 o2 v v1 : Nat} {u u1 u2 : Nat → Nat} {t t1 t2 t3 t4 y y1 M : Nat} {A : Nat → Nat} {e : Nat} (C : Cv l G RL cL_law 9 nm9 room_1 (exL b L xs) P) {s : mS} {k : Nat} {pp : Nat → mS} {n : Nat} {tx : Nat → Nat} {ns : Nat → Int32} {lk : Nat → Int32} {ld : Nat → Int32} {os : Nat → Int32} {olk : Nat → Int32} {old : Nat → Int32} {nx : Int32} {sz : Int32} {rs : Nat → Nat → Int32} {rl : Nat → Nat → Int32} {rd : Nat → Nat → Int32} {zz : Int32} {rc : Int32} {en : Nat → Int32} {sn : Nat → Int64} {nd : Nat → Int32} {ln : Nat → Int32} {tl : Int32} {ce : Int32} {la : Int32} {cd : Nat → Int32} {ke : Int32} {ty : Int32} {th : Int32} {ap : Int32} {ft : Int32} {bo : Int32} {ot : Int32} {il : Int32} {f0 : Nat → Int32} {f1 : Nat → Int32} {f2 : Nat → Int32} {f3 : Nat → Int32} {f4 : Nat → Int32} {qu : Nat → Int32} {fr : Nat → Int32} {by9 : Nat → Int32} {fa : Nat → Int32} {fs : Nat → Int32} {og : Nat → Int64} (hI : INV s k pp n tx ns lk ld nx sz rs rl rd tl cd ke ty il f0 f2 f3 qu fr by9 fa fs) {x a1 a2 : Int32} {tt : Nat} (htt : tt < 512) (h1 : vp_in (x + 1) L) (h2 : vp_in (x + 2) L) (e1 : xs (x + 1).toNatClampNeg = a1) (e2 : xs (x + 2).toNatClampNeg = a2) (hk9 : LH P G b K p q1 q2 o o1 o2 v v1 u u1 u2 t t1 t2 t3 t4 y y1 M A e (46 + (tt + 1)) (24379 + 6 * (tt + 1)) x) : P (46 + tt) (24379 + 6 * tt) 584 [(0, .ref b), (1, .ref K), (2, .ref M), (3, .ref e), (4, .int x)] [] [(K, ob 4 (kF p o v t y)), (p, ob 0 (cR q1 q2 ns)), (q1, aI G 15 lk), (q2, aI G 16 ld), (o, ob 0 (cR o1 o2 os)), (o1, aI G 15 olk), (o2, aI G 16 old), (v, ob 1 (vF v1 nx sz)), (v1, aQ G 6 (fun k => some (u k))), (u 0, ob 0 (cR (u1 0) (u2 0) (rs 0))), (u1 0, aI G 15 (rl 0)), (u2 0, aI G 16 (rd 0)), (u 1, ob 0 (cR (u1 1) (u2 1) (rs 1))), (u1 1, aI G 15 (rl 1)), (u2 1, aI G 16 (rd 1)), (u 2, ob 0 (cR (u1 2) (u2 2) (rs 2))), (u1 2, aI G 15 (rl 2)), (u2 2, aI G 16 (rd 2)), (u 3, ob 0 (cR (u1 3) (u2 3) (rs 3))), (u1 3, aI G 15 (rl 3)), (u2 3, aI G 16 (rd 3)), (u 4, ob 0 (cR (u1 4) (u2 4) (rs 4))), (u1 4, aI G 15 (rl 4)), (u2 4, aI G 16 (rd 4)), (u 5, ob 0 (cR (u1 5) (u2 5) (rs 5))), (u1 5, aI G 15 (rl 5)), (u2 5, aI G 16 (rd 5)), (t, ob 2 (sF t1 t2 t3 t4 zz rc)), (t1, aI G 4624 en), (t2, aJ G 256 sn), (t3, aI G 16 nd), (t4, aI G 16 ln), (y, ob 3 (tF y1 tl ce la)), (y1, aI G 60 cd), (M, ob 5 (mF A ke ty th ap ft bo ot il)), (A 0, aI G 53 f0), (A 1, aI G 53 f1), (A 2, aI G 318 f2), (A 3, aI G 60 f3), (A 4, aI G 48 f4), (A 5, aI G 4624 qu), (A 6, aI G 4624 fr), (A 7, aI G 4624 by9), (A 8, aI G 4624 fa), (A 9, aI G 16 fs), (e, aJ G 1 og)] := by
  obtain ⟨hC, hSv, htl, hn, hcd, hf, hp, hke, hty, ht, hil⟩ := hI
  have hok := hC.1
  have hk : k ≤ 6 := by obtain ⟨j9, -, -, -, h9, -⟩ := hSv; exact h9
  have hsz : sz = nI k := by obtain ⟨j9, -, -, h9, -⟩ := hSv; exact h9
  have hr0 : 46 + tt ≤ room_1.cells ∧ 24379 + 6 * tt ≤ room_1.slots := ⟨by show _ ≤ 601024; omega, by show _ ≤ 7293034; omega⟩
  have hr1 : 46 + tt + 1 ≤ room_1.cells ∧ 24379 + 6 * tt + 6 ≤ room_1.slots := ⟨by show _ ≤ 601024; omega, by show _ ≤ 7293034; omega⟩
  refine st_aload_n C.cx (dk DL_law_7 28 rfl) rfl ?_
  refine st_aload_n C.cx (dk DL_law_7 29 rfl) rfl ?_
  refine st_iload C.cx (dk DL_law_7 30 rfl) rfl ?_
  refine st_iconst C.cx (v := 1) (dk DL_law_7 31 rfl) (by decide) ?_
  refine st_iadd C.cx (dk DL_law_7 32 rfl) ?_
  refine st_sld C (dk DL_law_7 33 rfl) h1 e1 ?_
  refine st_aload_n C.cx (dk DL_law_7 34 rfl) rfl ?_
  refine st_callH (fun _ _ _ _ h => h.1) C (kw_append l G hlt htl hn) mw_L_append ms_L_append mq_RL_103 (dk DL_law_7 35 rfl) [0, 32, 33, 45] rfl rfl rfl rfl (Nat.le_of_ble_eq_true rfl) ⟨Nat.le_of_ble_eq_true rfl, Nat.le_of_ble_eq_true rfl⟩ hr1 (fun r9 w9 v9 hq9 => ?_)
  obtain ⟨rfl, hu⟩ := hq9
  rcases hu with ⟨j, h_1, h_2, h_3, h_4, rfl, rfl⟩ | ⟨rfl, h_1, rfl⟩ | ⟨rfl, h_1, h_2, rfl⟩
  · simp only [put_cons, put_nil, List.set_cons_zero, List.set_cons_succ, List.append_nil]
    have qh_j : isR a1 33 126 := ⟨j, h_1, h_2, h_3⟩
    refine st_istore C.cx (dk DL_law_7 36 rfl) (by decide) rfl ?_
    refine st_aload_n C.cx (dk DL_law_7 37 rfl) rfl ?_
    refine st_aload_n C.cx (dk DL_law_7 38 rfl) rfl ?_
    refine st_iload C.cx (dk DL_law_7 39 rfl) rfl ?_
    refine st_iconst C.cx (v := 1) (dk DL_law_8 0 rfl) (by decide) ?_
    refine st_iadd C.cx (dk DL_law_8 1 rfl) ?_
    refine st_sld C (dk DL_law_8 2 rfl) h1 e1 ?_
    refine st_cV C.cx (k_X6_append l G hty hn) mf_X6_append mi_X6_append ml_RL_105 (dk DL_law_8 3 rfl) [34, 38] rfl rfl rfl rfl (Nat.le_of_ble_eq_true rfl) rfl rfl ⟨Nat.le_of_ble_eq_true rfl, Nat.le_of_ble_eq_true rfl⟩ hr1 (fun r8 w8 hq8 => ?_)
    rcases hq8 with ⟨g_1, rfl, rfl⟩ | ⟨g_1, g_2, rfl, rfl⟩ | ⟨jr, g_1, g_2, g_3, g_4, rfl, rfl⟩
    · exfalso
      first | contradiction | omega
    · exfalso
      first | contradiction | omega
    · have qg_j : isR a1 33 126 := ⟨jr, g_1, g_2, g_3⟩
      obtain rfl := (u_nI h_3 g_3 (by omega) (by omega)).symm
      simp only [put_cons, put_nil, List.set_cons_zero, List.set_cons_succ, List.append_nil]
      refine st_istore C.cx (dk DL_law_8 4 rfl) (by decide) rfl ?_
      refine st_aload_n C.cx (dk DL_law_8 5 rfl) rfl ?_
      refine st_cV C.cx (k_X6_thrown l G) mf_X6_thrown mi_X6_thrown ml_RL_80 (dk DL_law_8 6 rfl) [34] rfl rfl rfl rfl (Nat.le_of_ble_eq_true rfl) rfl rfl ⟨Nat.le_of_ble_eq_true rfl, Nat.le_of_ble_eq_true rfl⟩ hr1 (fun r9 w9 hq9 => ?_)
      obtain ⟨rfl, rfl⟩ := hq9
      show P _ _ _ _ _ [_, _, _, _, _, _, _, _, _, _, _, _, _, _, _, _, _, _, _, _, _, _, _, _, _, _, _, _, _, _, _, _, _, _, _, _, _, _, _, _, _, _, _, _, _, _]
      refine st_iload C.cx (dk DL_law_8 7 rfl) rfl ?_
      refine st_icmp_eq C.cx (tgt := 620) (dk DL_law_8 8 rfl) (by decide) (fun c_615 => ?_) (fun c_615 => ?_)
      · refine st_iload C.cx (dk DL_law_8 11 rfl) rfl ?_
        refine st_if_ne C.cx (tgt := 637) (dk DL_law_8 12 rfl) (by decide) (fun c_622 => ?_) (fun c_622 => ?_)
        · exact absurd rfl c_622
        · refine st_aload_n C.cx (dk DL_law_8 13 rfl) rfl ?_
          refine st_iconst C.cx (v := 0) (dk DL_law_8 14 rfl) (by decide) ?_
          refine st_lald C.cx (dk DL_law_8 15 rfl) 45 rfl (by unfold vp_in; decide) ?_
          refine st_iload C.cx (dk DL_law_8 16 rfl) rfl ?_
          refine st_i2l C.cx (dk DL_law_8 17 rfl) ?_
          refine st_lcmp C.cx (dk DL_law_8 18 rfl) ?_
          refine st_if_eq C.cx (tgt := 637) (dk DL_law_8 19 rfl) (by decide) (fun c_632 => ?_) (fun c_632 => ?_)
          · refine st_goto C.cx (tgt := 1250) (dk DL_law_8 22 rfl) (by decide) ?_
            refine st_lv C.cx [0, 1, 2, 3, 4] rfl ?_
            refine st_wide C.cx (k' := 46 + (tt + 1)) (n' := 24379 + 6 * (tt + 1)) (by omega) (by omega) ?_
            exact hk9 s k pp (n + 1) (updS tx n j) ns lk ld os olk old nx sz rs rl rd zz rc en sn nd ln (nI (n + 1)) ce la (upd cd n (nI j)) ke (nI (n + 1)) 0 ap ft bo ot il f0 f1 f2 (upd f3 n (nI j)) f4 qu fr by9 fa fs (vp_updL og 0 (Int32.toInt64 (nI (n + 1)))) ⟨hC, hSv, rfl, (by omega), hdT_add hcd h_1 h_2, hf, hp, hke, rfl, hdT_add ht h_1 h_2, hil⟩
          · exact absurd ((lg_cmp0 _ _).mpr rfl) c_632
      · exact absurd rfl c_615
  · simp only [put_cons, put_nil, List.set_cons_zero, List.set_cons_succ, List.append_nil]
    refine st_istore C.cx (dk DL_law_7 36 rfl) (by decide) rfl ?_
    refine st_aload_n C.cx (dk DL_law_7 37 rfl) rfl ?_
    refine st_aload_n C.cx (dk DL_law_7 38 rfl) rfl ?_
    refine st_iload C.cx (dk DL_law_7 39 rfl) rfl ?_
    refine st_iconst C.cx (v := 1) (dk DL_law_8 0 rfl) (by decide) ?_
    refine st_iadd C.cx (dk DL_law_8 1 rfl) ?_
    refine st_sld C (dk DL_law_8 2 rfl) h1 e1 ?_
    refine st_cV C.cx (k_X6_append l G hty hn) mf_X6_append mi_X6_append ml_RL_105 (dk DL_law_8 3 rfl) [34, 38] rfl rfl rfl rfl (Nat.le_of_ble_eq_true rfl) rfl rfl ⟨Nat.le_of_ble_eq_true rfl, Nat.le_of_ble_eq_true rfl⟩ hr1 (fun r8 w8 hq8 => ?_)
    rcases hq8 with ⟨g_1, rfl, rfl⟩ | ⟨g_1, g_2, rfl, rfl⟩ | ⟨jr, g_1, g_2, g_3, g_4, rfl, rfl⟩
    · simp only [put_cons, put_nil, List.set_cons_zero, List.set_cons_succ, List.append_nil]
      refine st_istore C.cx (dk DL_law_8 4 rfl) (by decide) rfl ?_
      refine st_aload_n C.cx (dk DL_law_8 5 rfl) rfl ?_
      refine st_cV C.cx (k_X6_thrown l G) mf_X6_thrown mi_X6_thrown ml_RL_80 (dk DL_law_8 6 rfl) [34] rfl rfl rfl rfl (Nat.le_of_ble_eq_true rfl) rfl rfl ⟨Nat.le_of_ble_eq_true rfl, Nat.le_of_ble_eq_true rfl⟩ hr1 (fun r9 w9 hq9 => ?_)
      obtain ⟨rfl, rfl⟩ := hq9
      show P _ _ _ _ _ [_, _, _, _, _, _, _, _, _, _, _, _, _, _, _, _, _, _, _, _, _, _, _, _, _, _, _, _, _, _, _, _, _, _, _, _, _, _, _, _, _, _, _, _, _, _]
      refine st_iload C.cx (dk DL_law_8 7 rfl) rfl ?_
      refine st_icmp_eq C.cx (tgt := 620) (dk DL_law_8 8 rfl) (by decide) (fun c_615 => ?_) (fun c_615 => ?_)
      · refine st_iload C.cx (dk DL_law_8 11 rfl) rfl ?_
        refine st_if_ne C.cx (tgt := 637) (dk DL_law_8 12 rfl) (by decide) (fun c_622 => ?_) (fun c_622 => ?_)
        · refine st_goto C.cx (tgt := 1250) (dk DL_law_8 22 rfl) (by decide) ?_
          refine st_lv C.cx [0, 1, 2, 3, 4] rfl ?_
          refine st_wide C.cx (k' := 46 + (tt + 1)) (n' := 24379 + 6 * (tt + 1)) (by omega) (by omega) ?_
          exact hk9 s k pp n tx ns lk ld os olk old nx sz rs rl rd zz rc en sn nd ln tl ce la cd ke ty 1 ap ft bo ot il f0 f1 f2 f3 f4 qu fr by9 fa fs og ⟨hC, hSv, htl, hn, hcd, hf, hp, hke, hty, ht, hil⟩
        · exact absurd c_622 (by decide)
      · exact absurd rfl c_615
    · exfalso
      first | contradiction | omega
    · have qg_j : isR a1 33 126 := ⟨jr, g_1, g_2, g_3⟩
      exfalso
      first | contradiction | omega
  · simp only [put_cons, put_nil, List.set_cons_zero, List.set_cons_succ, List.append_nil]
    refine st_istore C.cx (dk DL_law_7 36 rfl) (by decide) rfl ?_
    refine st_aload_n C.cx (dk DL_law_7 37 rfl) rfl ?_
    refine st_aload_n C.cx (dk DL_law_7 38 rfl) rfl ?_
    refine st_iload C.cx (dk DL_law_7 39 rfl) rfl ?_
    refine st_iconst C.cx (v := 1) (dk DL_law_8 0 rfl) (by decide) ?_
    refine st_iadd C.cx (dk DL_law_8 1 rfl) ?_
    refine st_sld C (dk DL_law_8 2 rfl) h1 e1 ?_
    refine st_cV C.cx (k_X6_append l G hty hn) mf_X6_append mi_X6_append ml_RL_105 (dk DL_law_8 3 rfl) [34, 38] rfl rfl rfl rfl (Nat.le_of_ble_eq_true rfl) rfl rfl ⟨Nat.le_of_ble_eq_true rfl, Nat.le_of_ble_eq_true rfl⟩ hr1 (fun r8 w8 hq8 => ?_)
    rcases hq8 with ⟨g_1, rfl, rfl⟩ | ⟨g_1, g_2, rfl, rfl⟩ | ⟨jr, g_1, g_2, g_3, g_4, rfl, rfl⟩
    · exfalso
      first | contradiction | omega
    · simp only [put_cons, put_nil, List.set_cons_zero, List.set_cons_succ, List.append_nil]
      refine st_istore C.cx (dk DL_law_8 4 rfl) (by decide) rfl ?_
      refine st_aload_n C.cx (dk DL_law_8 5 rfl) rfl ?_
      refine st_cV C.cx (k_X6_thrown l G) mf_X6_thrown mi_X6_thrown ml_RL_80 (dk DL_law_8 6 rfl) [34] rfl rfl rfl rfl (Nat.le_of_ble_eq_true rfl) rfl rfl ⟨Nat.le_of_ble_eq_true rfl, Nat.le_of_ble_eq_true rfl⟩ hr1 (fun r9 w9 hq9 => ?_)
      obtain ⟨rfl, rfl⟩ := hq9
      show P _ _ _ _ _ [_, _, _, _, _, _, _, _, _, _, _, _, _, _, _, _, _, _, _, _, _, _, _, _, _, _, _, _, _, _, _, _, _, _, _, _, _, _, _, _, _, _, _, _, _, _]
      refine st_iload C.cx (dk DL_law_8 7 rfl) rfl ?_
      refine st_icmp_eq C.cx (tgt := 620) (dk DL_law_8 8 rfl) (by decide) (fun c_615 => ?_) (fun c_615 => ?_)
      · refine st_iload C.cx (dk DL_law_8 11 rfl) rfl ?_
        refine st_if_ne C.cx (tgt := 637) (dk DL_law_8 12 rfl) (by decide) (fun c_622 => ?_) (fun c_622 => ?_)
        · refine st_goto C.cx (tgt := 1250) (dk DL_law_8 22 rfl) (by decide) ?_
          refine st_lv C.cx [0, 1, 2, 3, 4] rfl ?_
          refine st_wide C.cx (k' := 46 + (tt + 1)) (n' := 24379 + 6 * (tt + 1)) (by omega) (by omega) ?_
          exact hk9 s k pp n tx ns lk ld os olk old nx sz rs rl rd zz rc en sn nd ln tl ce la cd ke ty 2 ap ft bo ot il f0 f1 f2 f3 f4 qu fr by9 fa fs og ⟨hC, hSv, htl, hn, hcd, hf, hp, hke, hty, ht, hil⟩
        · exact absurd c_622 (by decide)
      · exact absurd rfl c_615
    · have qg_j : isR a1 33 126 := ⟨jr, g_1, g_2, g_3⟩
      exfalso
      first | contradiction | omega
set_option maxHeartbeats 8000000 in
set_option maxRecDepth 100000 in
theorem lc_clearBuffer {l : Launch} {G : wG} (hlt : l.stackTraces = false) {L : Nat} {xs : Nat → Int32} {P : PT} {nm9 : String} {b K p q1 q2 o o1 o2 v v1 : Nat} {u u1 u2 : Nat → Nat} {t t1 t2 t3 t4 y y1 M : Nat} {A : Nat → Nat} {e : Nat} (C : Cv l G RL cL_law 9 nm9 room_1 (exL b L xs) P) {s : mS} {k : Nat} {pp : Nat → mS} {n : Nat} {tx : Nat → Nat} {ns : Nat → Int32} {lk : Nat → Int32} {ld : Nat → Int32} {os : Nat → Int32} {olk : Nat → Int32} {old : Nat → Int32} {nx : Int32} {sz : Int32} {rs : Nat → Nat → Int32} {rl : Nat → Nat → Int32} {rd : Nat → Nat → Int32} {zz : Int32} {rc : Int32} {en : Nat → Int32} {sn : Nat → Int64} {nd : Nat → Int32} {ln : Nat → Int32} {tl : Int32} {ce : Int32} {la : Int32} {cd : Nat → Int32} {ke : Int32} {ty : Int32} {th : Int32} {ap : Int32} {ft : Int32} {bo : Int32} {ot : Int32} {il : Int32} {f0 : Nat → Int32} {f1 : Nat → Int32} {f2 : Nat → Int32} {f3 : Nat → Int32} {f4 : Nat → Int32} {qu : Nat → Int32} {fr : Nat → Int32} {by9 : Nat → Int32} {fa : Nat → Int32} {fs : Nat → Int32} {og : Nat → Int64} (hI : INV s k pp n tx ns lk ld nx sz rs rl rd tl cd ke ty il f0 f2 f3 qu fr by9 fa fs) {x a1 a2 : Int32} {tt : Nat} (htt : tt < 512) (h1 : vp_in (x + 1) L) (h2 : vp_in (x + 2) L) (e1 : xs (x + 1).toNatClampNeg = a1) (e2 : xs (x + 2).toNatClampNeg = a2) (hk9 : LH P G b K p q1 q2 o o1 o2 v v1 u u1 u2 t t1 t2 t3 t4 y y1 M A e (46 + (tt + 1)) (24379 + 6 * (tt + 1)) x) : P (46 + tt) (24379 + 6 * tt) 640 [(0, .ref b), (1, .ref K), (2, .ref M), (3, .ref e), (4, .int x)] [] [(K, ob 4 (kF p o v t y)), (p, ob 0 (cR q1 q2 ns)), (q1, aI G 15 lk), (q2, aI G 16 ld), (o, ob 0 (cR o1 o2 os)), (o1, aI G 15 olk), (o2, aI G 16 old), (v, ob 1 (vF v1 nx sz)), (v1, aQ G 6 (fun k => some (u k))), (u 0, ob 0 (cR (u1 0) (u2 0) (rs 0))), (u1 0, aI G 15 (rl 0)), (u2 0, aI G 16 (rd 0)), (u 1, ob 0 (cR (u1 1) (u2 1) (rs 1))), (u1 1, aI G 15 (rl 1)), (u2 1, aI G 16 (rd 1)), (u 2, ob 0 (cR (u1 2) (u2 2) (rs 2))), (u1 2, aI G 15 (rl 2)), (u2 2, aI G 16 (rd 2)), (u 3, ob 0 (cR (u1 3) (u2 3) (rs 3))), (u1 3, aI G 15 (rl 3)), (u2 3, aI G 16 (rd 3)), (u 4, ob 0 (cR (u1 4) (u2 4) (rs 4))), (u1 4, aI G 15 (rl 4)), (u2 4, aI G 16 (rd 4)), (u 5, ob 0 (cR (u1 5) (u2 5) (rs 5))), (u1 5, aI G 15 (rl 5)), (u2 5, aI G 16 (rd 5)), (t, ob 2 (sF t1 t2 t3 t4 zz rc)), (t1, aI G 4624 en), (t2, aJ G 256 sn), (t3, aI G 16 nd), (t4, aI G 16 ln), (y, ob 3 (tF y1 tl ce la)), (y1, aI G 60 cd), (M, ob 5 (mF A ke ty th ap ft bo ot il)), (A 0, aI G 53 f0), (A 1, aI G 53 f1), (A 2, aI G 318 f2), (A 3, aI G 60 f3), (A 4, aI G 48 f4), (A 5, aI G 4624 qu), (A 6, aI G 4624 fr), (A 7, aI G 4624 by9), (A 8, aI G 4624 fa), (A 9, aI G 16 fs), (e, aJ G 1 og)] := by
  obtain ⟨hC, hSv, htl, hn, hcd, hf, hp, hke, hty, ht, hil⟩ := hI
  have hok := hC.1
  have hk : k ≤ 6 := by obtain ⟨j9, -, -, -, h9, -⟩ := hSv; exact h9
  have hsz : sz = nI k := by obtain ⟨j9, -, -, h9, -⟩ := hSv; exact h9
  have hr0 : 46 + tt ≤ room_1.cells ∧ 24379 + 6 * tt ≤ room_1.slots := ⟨by show _ ≤ 601024; omega, by show _ ≤ 7293034; omega⟩
  have hr1 : 46 + tt + 1 ≤ room_1.cells ∧ 24379 + 6 * tt + 6 ≤ room_1.slots := ⟨by show _ ≤ 601024; omega, by show _ ≤ 7293034; omega⟩
  refine st_aload_n C.cx (dk DL_law_8 23 rfl) rfl ?_
  refine st_cV C.cx (k_X5_clearBuffer l G ) mf_X5_clearBuffer mi_X5_clearBuffer ml_RL_106 (dk DL_law_8 24 rfl) [0, 32, 33] rfl rfl rfl rfl (Nat.le_of_ble_eq_true rfl) rfl rfl ⟨Nat.le_of_ble_eq_true rfl, Nat.le_of_ble_eq_true rfl⟩ hr0 (fun r9 w9 hq9 => ?_)
  obtain ⟨rfl, rfl⟩ := hq9
  simp only [put_cons, put_nil, List.set_cons_zero, List.set_cons_succ, List.append_nil]
  refine st_aload_n C.cx (dk DL_law_8 25 rfl) rfl ?_
  refine st_cV C.cx (k_X6_clearBuffer l G ) mf_X6_clearBuffer mi_X6_clearBuffer ml_RL_109 (dk DL_law_8 26 rfl) [34] rfl rfl rfl rfl (Nat.le_of_ble_eq_true rfl) rfl rfl ⟨Nat.le_of_ble_eq_true rfl, Nat.le_of_ble_eq_true rfl⟩ hr0 (fun r8 w8 hq8 => ?_)
  obtain ⟨rfl, rfl⟩ := hq8
  simp only [put_cons, put_nil, List.set_cons_zero, List.set_cons_succ, List.append_nil]
  refine st_icmp_eq C.cx (tgt := 1250) (dk DL_law_8 27 rfl) (by decide) (fun c_648 => ?_) (fun c_648 => ?_)
  · refine st_wide C.cx (k' := 46 + (tt + 1)) (n' := 24379 + 6 * (tt + 1)) (by omega) (by omega) ?_
    exact hk9 s k pp 0 tx ns lk ld os olk old nx sz rs rl rd zz rc en sn nd ln 0 ce la cd ke 0 0 ap ft bo ot il f0 f1 f2 f3 f4 qu fr by9 fa fs og ⟨hC, hSv, rfl, Nat.zero_le _, hdT_0 _ _, hf, hp, hke, rfl, hdT_0 _ _, hil⟩
  · exact absurd (htl.trans hty.symm) c_648
set_option maxHeartbeats 8000000 in
set_option maxRecDepth 100000 in
theorem lc_firstError {l : Launch} {G : wG} (hlt : l.stackTraces = false) {L : Nat} {xs : Nat → Int32} {P : PT} {nm9 : String} {b K p q1 q2 o o1 o2 v v1 : Nat} {u u1 u2 : Nat → Nat} {t t1 t2 t3 t4 y y1 M : Nat} {A : Nat → Nat} {e : Nat} (C : Cv l G RL cL_law 9 nm9 room_1 (exL b L xs) P) {s : mS} {k : Nat} {pp : Nat → mS} {n : Nat} {tx : Nat → Nat} {ns : Nat → Int32} {lk : Nat → Int32} {ld : Nat → Int32} {os : Nat → Int32} {olk : Nat → Int32} {old : Nat → Int32} {nx : Int32} {sz : Int32} {rs : Nat → Nat → Int32} {rl : Nat → Nat → Int32} {rd : Nat → Nat → Int32} {zz : Int32} {rc : Int32} {en : Nat → Int32} {sn : Nat → Int64} {nd : Nat → Int32} {ln : Nat → Int32} {tl : Int32} {ce : Int32} {la : Int32} {cd : Nat → Int32} {ke : Int32} {ty : Int32} {th : Int32} {ap : Int32} {ft : Int32} {bo : Int32} {ot : Int32} {il : Int32} {f0 : Nat → Int32} {f1 : Nat → Int32} {f2 : Nat → Int32} {f3 : Nat → Int32} {f4 : Nat → Int32} {qu : Nat → Int32} {fr : Nat → Int32} {by9 : Nat → Int32} {fa : Nat → Int32} {fs : Nat → Int32} {og : Nat → Int64} (hI : INV s k pp n tx ns lk ld nx sz rs rl rd tl cd ke ty il f0 f2 f3 qu fr by9 fa fs) {x a1 a2 : Int32} {tt : Nat} (htt : tt < 512) (h1 : vp_in (x + 1) L) (h2 : vp_in (x + 2) L) (e1 : xs (x + 1).toNatClampNeg = a1) (e2 : xs (x + 2).toNatClampNeg = a2) (hk9 : LH P G b K p q1 q2 o o1 o2 v v1 u u1 u2 t t1 t2 t3 t4 y y1 M A e (46 + (tt + 1)) (24379 + 6 * (tt + 1)) x) : P (46 + tt) (24379 + 6 * tt) 653 [(0, .ref b), (1, .ref K), (2, .ref M), (3, .ref e), (4, .int x)] [] [(K, ob 4 (kF p o v t y)), (p, ob 0 (cR q1 q2 ns)), (q1, aI G 15 lk), (q2, aI G 16 ld), (o, ob 0 (cR o1 o2 os)), (o1, aI G 15 olk), (o2, aI G 16 old), (v, ob 1 (vF v1 nx sz)), (v1, aQ G 6 (fun k => some (u k))), (u 0, ob 0 (cR (u1 0) (u2 0) (rs 0))), (u1 0, aI G 15 (rl 0)), (u2 0, aI G 16 (rd 0)), (u 1, ob 0 (cR (u1 1) (u2 1) (rs 1))), (u1 1, aI G 15 (rl 1)), (u2 1, aI G 16 (rd 1)), (u 2, ob 0 (cR (u1 2) (u2 2) (rs 2))), (u1 2, aI G 15 (rl 2)), (u2 2, aI G 16 (rd 2)), (u 3, ob 0 (cR (u1 3) (u2 3) (rs 3))), (u1 3, aI G 15 (rl 3)), (u2 3, aI G 16 (rd 3)), (u 4, ob 0 (cR (u1 4) (u2 4) (rs 4))), (u1 4, aI G 15 (rl 4)), (u2 4, aI G 16 (rd 4)), (u 5, ob 0 (cR (u1 5) (u2 5) (rs 5))), (u1 5, aI G 15 (rl 5)), (u2 5, aI G 16 (rd 5)), (t, ob 2 (sF t1 t2 t3 t4 zz rc)), (t1, aI G 4624 en), (t2, aJ G 256 sn), (t3, aI G 16 nd), (t4, aI G 16 ln), (y, ob 3 (tF y1 tl ce la)), (y1, aI G 60 cd), (M, ob 5 (mF A ke ty th ap ft bo ot il)), (A 0, aI G 53 f0), (A 1, aI G 53 f1), (A 2, aI G 318 f2), (A 3, aI G 60 f3), (A 4, aI G 48 f4), (A 5, aI G 4624 qu), (A 6, aI G 4624 fr), (A 7, aI G 4624 by9), (A 8, aI G 4624 fa), (A 9, aI G 16 fs), (e, aJ G 1 og)] := by
  obtain ⟨hC, hSv, htl, hn, hcd, hf, hp, hke, hty, ht, hil⟩ := hI
  have hok := hC.1
  have hk : k ≤ 6 := by obtain ⟨j9, -, -, -, h9, -⟩ := hSv; exact h9
  have hsz : sz = nI k := by obtain ⟨j9, -, -, h9, -⟩ := hSv; exact h9
  have hr0 : 46 + tt ≤ room_1.cells ∧ 24379 + 6 * tt ≤ room_1.slots := ⟨by show _ ≤ 601024; omega, by show _ ≤ 7293034; omega⟩
  have hr1 : 46 + tt + 1 ≤ room_1.cells ∧ 24379 + 6 * tt + 6 ≤ room_1.slots := ⟨by show _ ≤ 601024; omega, by show _ ≤ 7293034; omega⟩
  refine st_aload_n C.cx (dk DL_law_8 30 rfl) rfl ?_
  refine st_cV C.cx (k_X5_firstError l G htl hn hcd hC) mf_X5_firstError mi_X5_firstError ml_RL_110 (dk DL_law_8 31 rfl) [0, 1, 2, 3, 4, 5, 6, 32, 33] rfl rfl rfl rfl (Nat.le_of_ble_eq_true rfl) rfl rfl ⟨Nat.le_of_ble_eq_true rfl, Nat.le_of_ble_eq_true rfl⟩ hr0 (fun r9 w9 hq9 => ?_)
  obtain ⟨rfl, c9, la9, ns9, lk9, ld9, rfl⟩ := hq9
  simp only [put_cons, put_nil, List.set_cons_zero, List.set_cons_succ, List.append_nil]
  refine st_aload_n C.cx (dk DL_law_8 32 rfl) rfl ?_
  refine st_cV C.cx (k_X6_firstError l G hty hn ht) mf_X6_firstError mi_X6_firstError ml_RL_113 (dk DL_law_8 33 rfl) [34, 38, 39] rfl rfl rfl rfl (Nat.le_of_ble_eq_true rfl) rfl rfl ⟨Nat.le_of_ble_eq_true rfl, Nat.le_of_ble_eq_true rfl⟩ hr0 (fun r8 w8 hq8 => ?_)
  obtain ⟨rfl, ap9r, ft9r, tl9r, rfl⟩ := hq8
  simp only [put_cons, put_nil, List.set_cons_zero, List.set_cons_succ, List.append_nil]
  refine st_icmp_eq C.cx (tgt := 1250) (dk DL_law_8 34 rfl) (by decide) (fun c_661 => ?_) (fun c_661 => ?_)
  · refine st_wide C.cx (k' := 46 + (tt + 1)) (n' := 24379 + 6 * (tt + 1)) (by omega) (by omega) ?_
    exact hk9 s k pp n tx ns lk ld ns9 lk9 ld9 nx sz rs rl rd zz rc en sn nd ln tl c9 la9 cd ke ty 0 ap9r ft9r bo ot il f0 f1 f2 f3 tl9r qu fr by9 fa fs og ⟨hC, hSv, htl, hn, hcd, hf, hp, hke, hty, ht, hil⟩
  · exact absurd rfl c_661
set_option maxHeartbeats 8000000 in
set_option maxRecDepth 100000 in
theorem lc_corridor {l : Launch} {G : wG} (hlt : l.stackTraces = false) {L : Nat} {xs : Nat → Int32} {P : PT} {nm9 : String} {b K p q1 q2 o o1 o2 v v1 : Nat} {u u1 u2 : Nat → Nat} {t t1 t2 t3 t4 y y1 M : Nat} {A : Nat → Nat} {e : Nat} (C : Cv l G RL cL_law 9 nm9 room_1 (exL b L xs) P) {s : mS} {k : Nat} {pp : Nat → mS} {n : Nat} {tx : Nat → Nat} {ns : Nat → Int32} {lk : Nat → Int32} {ld : Nat → Int32} {os : Nat → Int32} {olk : Nat → Int32} {old : Nat → Int32} {nx : Int32} {sz : Int32} {rs : Nat → Nat → Int32} {rl : Nat → Nat → Int32} {rd : Nat → Nat → Int32} {zz : Int32} {rc : Int32} {en : Nat → Int32} {sn : Nat → Int64} {nd : Nat → Int32} {ln : Nat → Int32} {tl : Int32} {ce : Int32} {la : Int32} {cd : Nat → Int32} {ke : Int32} {ty : Int32} {th : Int32} {ap : Int32} {ft : Int32} {bo : Int32} {ot : Int32} {il : Int32} {f0 : Nat → Int32} {f1 : Nat → Int32} {f2 : Nat → Int32} {f3 : Nat → Int32} {f4 : Nat → Int32} {qu : Nat → Int32} {fr : Nat → Int32} {by9 : Nat → Int32} {fa : Nat → Int32} {fs : Nat → Int32} {og : Nat → Int64} (hI : INV s k pp n tx ns lk ld nx sz rs rl rd tl cd ke ty il f0 f2 f3 qu fr by9 fa fs) {x a1 a2 : Int32} {tt : Nat} (htt : tt < 512) (h1 : vp_in (x + 1) L) (h2 : vp_in (x + 2) L) (e1 : xs (x + 1).toNatClampNeg = a1) (e2 : xs (x + 2).toNatClampNeg = a2) (hk9 : LH P G b K p q1 q2 o o1 o2 v v1 u u1 u2 t t1 t2 t3 t4 y y1 M A e (46 + (tt + 1)) (24379 + 6 * (tt + 1)) x) : P (46 + tt) (24379 + 6 * tt) 666 [(0, .ref b), (1, .ref K), (2, .ref M), (3, .ref e), (4, .int x)] [] [(K, ob 4 (kF p o v t y)), (p, ob 0 (cR q1 q2 ns)), (q1, aI G 15 lk), (q2, aI G 16 ld), (o, ob 0 (cR o1 o2 os)), (o1, aI G 15 olk), (o2, aI G 16 old), (v, ob 1 (vF v1 nx sz)), (v1, aQ G 6 (fun k => some (u k))), (u 0, ob 0 (cR (u1 0) (u2 0) (rs 0))), (u1 0, aI G 15 (rl 0)), (u2 0, aI G 16 (rd 0)), (u 1, ob 0 (cR (u1 1) (u2 1) (rs 1))), (u1 1, aI G 15 (rl 1)), (u2 1, aI G 16 (rd 1)), (u 2, ob 0 (cR (u1 2) (u2 2) (rs 2))), (u1 2, aI G 15 (rl 2)), (u2 2, aI G 16 (rd 2)), (u 3, ob 0 (cR (u1 3) (u2 3) (rs 3))), (u1 3, aI G 15 (rl 3)), (u2 3, aI G 16 (rd 3)), (u 4, ob 0 (cR (u1 4) (u2 4) (rs 4))), (u1 4, aI G 15 (rl 4)), (u2 4, aI G 16 (rd 4)), (u 5, ob 0 (cR (u1 5) (u2 5) (rs 5))), (u1 5, aI G 15 (rl 5)), (u2 5, aI G 16 (rd 5)), (t, ob 2 (sF t1 t2 t3 t4 zz rc)), (t1, aI G 4624 en), (t2, aJ G 256 sn), (t3, aI G 16 nd), (t4, aI G 16 ln), (y, ob 3 (tF y1 tl ce la)), (y1, aI G 60 cd), (M, ob 5 (mF A ke ty th ap ft bo ot il)), (A 0, aI G 53 f0), (A 1, aI G 53 f1), (A 2, aI G 318 f2), (A 3, aI G 60 f3), (A 4, aI G 48 f4), (A 5, aI G 4624 qu), (A 6, aI G 4624 fr), (A 7, aI G 4624 by9), (A 8, aI G 4624 fa), (A 9, aI G 16 fs), (e, aJ G 1 og)] := by
  obtain ⟨hC, hSv, htl, hn, hcd, hf, hp, hke, hty, ht, hil⟩ := hI
  have hok := hC.1
  have hk : k ≤ 6 := by obtain ⟨j9, -, -, -, h9, -⟩ := hSv; exact h9
  have hsz : sz = nI k := by obtain ⟨j9, -, -, h9, -⟩ := hSv; exact h9
  have hr0 : 46 + tt ≤ room_1.cells ∧ 24379 + 6 * tt ≤ room_1.slots := ⟨by show _ ≤ 601024; omega, by show _ ≤ 7293034; omega⟩
  have hr1 : 46 + tt + 1 ≤ room_1.cells ∧ 24379 + 6 * tt + 6 ≤ room_1.slots := ⟨by show _ ≤ 601024; omega, by show _ ≤ 7293034; omega⟩
  refine st_aload_n C.cx (dk DL_law_8 37 rfl) rfl ?_
  refine st_aload_n C.cx (dk DL_law_8 38 rfl) rfl ?_
  refine st_callH (fun _ _ _ _ h => h.1) C (kw_corridor l G hlt hC hSv htl hn hcd) mw_L_corridor ms_L_corridor mq_RL_114 (dk DL_law_8 39 rfl) [0, 1, 2, 3, 4, 5, 6, 7, 8, 9, 10, 11, 12, 13, 14, 15, 16, 17, 18, 19, 20, 21, 22, 23, 24, 25, 26, 32, 33, 45] (hC_cons rfl (hC_cons rfl (hC_cons rfl (hC_cons rfl (hC_cons rfl (hC_cons rfl (hC_cons rfl (hC_cons rfl (hC_cons rfl (hC_cons rfl (hC_cons rfl (hC_cons rfl (hC_cons rfl (hC_cons rfl (hC_cons rfl (hC_cons rfl (hC_cons rfl (hC_cons rfl (hC_cons rfl (hC_cons rfl (hC_cons rfl (hC_cons rfl (hC_cons rfl (hC_cons rfl (hC_cons rfl (hC_cons rfl (hC_cons rfl (hC_cons rfl (hC_cons rfl (hC_cons rfl (hC_nil))))))))))))))))))))))))))))))) (by decide +kernel) rfl rfl (Nat.le_of_ble_eq_true rfl) ⟨Nat.le_of_ble_eq_true rfl, Nat.le_of_ble_eq_true rfl⟩ hr1 (fun r9 w9 v9 hq9 => ?_)
  obtain ⟨rfl, hu⟩ := hq9
  rcases hu with ⟨c, la, dg, kf, df, lf, h_1, h_2, h_3, rfl, ns9, lk9, ld9, os9, olk9, old9, nx9, sz9, rs9, rl9, rd9, ce9, la9, h_4, h_5, rfl⟩ | ⟨rfl, c, la, dg, kf, df, lf, h_1, h_2, os9, olk9, old9, ce9, la9, rfl⟩
  · simp only [put_cons, put_nil, List.set_cons_zero, List.set_cons_succ, List.append_nil]
    refine st_istore C.cx (dk DL_law_9 0 rfl) (by decide) rfl ?_
    refine st_aload_n C.cx (dk DL_law_9 1 rfl) rfl ?_
    refine st_cV C.cx (k_X6_corridor l G hf hok hke hk hp hty hn ht) mf_X6_corridor mi_X6_corridor ml_RL_117 (dk DL_law_9 2 rfl) [34, 35, 37, 38, 39] rfl rfl rfl rfl (Nat.le_of_ble_eq_true rfl) rfl rfl ⟨Nat.le_of_ble_eq_true rfl, Nat.le_of_ble_eq_true rfl⟩ hr1 (fun r8 w8 hq8 => ?_)
    obtain ⟨cr, lar, dgr, kfr, dfr, lfr, g_0, hor⟩ := hq8
    rcases hor with ⟨g_1, rfl, ap9r, ft9r, tl9r, rfl⟩ | ⟨g_1, g_2, rfl, ap9r, ft9r, f09r, f29r, tl9r, g_3, g_4, rfl⟩
    · have eT := h_1.symm.trans g_0
      simp only [Option.some.injEq, Prod.mk.injEq] at eT
      obtain ⟨rfl, rfl, rfl, rfl, rfl, rfl⟩ := eT
      exfalso
      first | contradiction | omega
    · have eT := h_1.symm.trans g_0
      simp only [Option.some.injEq, Prod.mk.injEq] at eT
      obtain ⟨rfl, rfl, rfl, rfl, rfl, rfl⟩ := eT
      simp only [put_cons, put_nil, List.set_cons_zero, List.set_cons_succ, List.append_nil]
      refine st_istore C.cx (dk DL_law_9 3 rfl) (by decide) rfl ?_
      refine st_aload_n C.cx (dk DL_law_9 4 rfl) rfl ?_
      refine st_cV C.cx (k_X6_thrown l G) mf_X6_thrown mi_X6_thrown ml_RL_80 (dk DL_law_9 5 rfl) [34] rfl rfl rfl rfl (Nat.le_of_ble_eq_true rfl) rfl rfl ⟨Nat.le_of_ble_eq_true rfl, Nat.le_of_ble_eq_true rfl⟩ hr1 (fun r9 w9 hq9 => ?_)
      obtain ⟨rfl, rfl⟩ := hq9
      show P _ _ _ _ _ [_, _, _, _, _, _, _, _, _, _, _, _, _, _, _, _, _, _, _, _, _, _, _, _, _, _, _, _, _, _, _, _, _, _, _, _, _, _, _, _, _, _, _, _, _, _]
      refine st_iload C.cx (dk DL_law_9 6 rfl) rfl ?_
      refine st_icmp_eq C.cx (tgt := 690) (dk DL_law_9 7 rfl) (by decide) (fun c_685 => ?_) (fun c_685 => ?_)
      · refine st_iload C.cx (dk DL_law_9 10 rfl) rfl ?_
        refine st_if_ne C.cx (tgt := 707) (dk DL_law_9 11 rfl) (by decide) (fun c_692 => ?_) (fun c_692 => ?_)
        · exact absurd rfl c_692
        · refine st_aload_n C.cx (dk DL_law_9 12 rfl) rfl ?_
          refine st_iconst C.cx (v := 0) (dk DL_law_9 13 rfl) (by decide) ?_
          refine st_lald C.cx (dk DL_law_9 14 rfl) 45 rfl (by unfold vp_in; decide) ?_
          refine st_iload C.cx (dk DL_law_9 15 rfl) rfl ?_
          refine st_i2l C.cx (dk DL_law_9 16 rfl) ?_
          refine st_lcmp C.cx (dk DL_law_9 17 rfl) ?_
          refine st_if_eq C.cx (tgt := 707) (dk DL_law_9 18 rfl) (by decide) (fun c_702 => ?_) (fun c_702 => ?_)
          · refine st_goto C.cx (tgt := 1250) (dk DL_law_9 21 rfl) (by decide) ?_
            refine st_lv C.cx [0, 1, 2, 3, 4] rfl ?_
            refine st_wide C.cx (k' := 46 + (tt + 1)) (n' := 24379 + 6 * (tt + 1)) (by omega) (by omega) ?_
            exact hk9 (tS s kf df lf) (svK k) (svP s k pp) 0 tx ns9 lk9 ld9 os9 olk9 old9 nx9 sz9 rs9 rl9 rd9 zz rc en sn nd ln 0 ce9 la9 cd (nI (svK k)) 0 0 ap9r ft9r bo ot 0 f09r f1 f29r f3 tl9r qu fr by9 fa fs (vp_updL og 0 (Int32.toInt64 (nI (kcN (tS s kf df lf) 16)))) ⟨h_4, h_5, rfl, (by omega), hdT_0 _ _, g_3, g_4, rfl, rfl, hdT_0 _ _, Or.inl rfl⟩
          · exact absurd ((lg_cmp0 _ _).mpr rfl) c_702
      · exact absurd rfl c_685
  · simp only [put_cons, put_nil, List.set_cons_zero, List.set_cons_succ, List.append_nil]
    refine st_istore C.cx (dk DL_law_9 0 rfl) (by decide) rfl ?_
    refine st_aload_n C.cx (dk DL_law_9 1 rfl) rfl ?_
    refine st_cV C.cx (k_X6_corridor l G hf hok hke hk hp hty hn ht) mf_X6_corridor mi_X6_corridor ml_RL_117 (dk DL_law_9 2 rfl) [34, 35, 37, 38, 39] rfl rfl rfl rfl (Nat.le_of_ble_eq_true rfl) rfl rfl ⟨Nat.le_of_ble_eq_true rfl, Nat.le_of_ble_eq_true rfl⟩ hr1 (fun r8 w8 hq8 => ?_)
    obtain ⟨cr, lar, dgr, kfr, dfr, lfr, g_0, hor⟩ := hq8
    rcases hor with ⟨g_1, rfl, ap9r, ft9r, tl9r, rfl⟩ | ⟨g_1, g_2, rfl, ap9r, ft9r, f09r, f29r, tl9r, g_3, g_4, rfl⟩
    · have eT := h_1.symm.trans g_0
      simp only [Option.some.injEq, Prod.mk.injEq] at eT
      obtain ⟨rfl, rfl, rfl, rfl, rfl, rfl⟩ := eT
      simp only [put_cons, put_nil, List.set_cons_zero, List.set_cons_succ, List.append_nil]
      refine st_istore C.cx (dk DL_law_9 3 rfl) (by decide) rfl ?_
      refine st_aload_n C.cx (dk DL_law_9 4 rfl) rfl ?_
      refine st_cV C.cx (k_X6_thrown l G) mf_X6_thrown mi_X6_thrown ml_RL_80 (dk DL_law_9 5 rfl) [34] rfl rfl rfl rfl (Nat.le_of_ble_eq_true rfl) rfl rfl ⟨Nat.le_of_ble_eq_true rfl, Nat.le_of_ble_eq_true rfl⟩ hr1 (fun r9 w9 hq9 => ?_)
      obtain ⟨rfl, rfl⟩ := hq9
      show P _ _ _ _ _ [_, _, _, _, _, _, _, _, _, _, _, _, _, _, _, _, _, _, _, _, _, _, _, _, _, _, _, _, _, _, _, _, _, _, _, _, _, _, _, _, _, _, _, _, _, _]
      refine st_iload C.cx (dk DL_law_9 6 rfl) rfl ?_
      refine st_icmp_eq C.cx (tgt := 690) (dk DL_law_9 7 rfl) (by decide) (fun c_685 => ?_) (fun c_685 => ?_)
      · refine st_iload C.cx (dk DL_law_9 10 rfl) rfl ?_
        refine st_if_ne C.cx (tgt := 707) (dk DL_law_9 11 rfl) (by decide) (fun c_692 => ?_) (fun c_692 => ?_)
        · refine st_goto C.cx (tgt := 1250) (dk DL_law_9 21 rfl) (by decide) ?_
          refine st_lv C.cx [0, 1, 2, 3, 4] rfl ?_
          refine st_wide C.cx (k' := 46 + (tt + 1)) (n' := 24379 + 6 * (tt + 1)) (by omega) (by omega) ?_
          exact hk9 s k pp n tx ns lk ld os9 olk9 old9 nx sz rs rl rd zz rc en sn nd ln tl ce9 la9 cd ke ty 1 ap9r ft9r bo ot il f0 f1 f2 f3 tl9r qu fr by9 fa fs og ⟨hC, hSv, htl, hn, hcd, hf, hp, hke, hty, ht, hil⟩
        · exact absurd c_692 (by decide)
      · exact absurd rfl c_685
    · have eT := h_1.symm.trans g_0
      simp only [Option.some.injEq, Prod.mk.injEq] at eT
      obtain ⟨rfl, rfl, rfl, rfl, rfl, rfl⟩ := eT
      exfalso
      first | contradiction | omega
set_option maxHeartbeats 8000000 in
set_option maxRecDepth 100000 in
theorem lc_undo {l : Launch} {G : wG} (hlt : l.stackTraces = false) {L : Nat} {xs : Nat → Int32} {P : PT} {nm9 : String} {b K p q1 q2 o o1 o2 v v1 : Nat} {u u1 u2 : Nat → Nat} {t t1 t2 t3 t4 y y1 M : Nat} {A : Nat → Nat} {e : Nat} (C : Cv l G RL cL_law 9 nm9 room_1 (exL b L xs) P) {s : mS} {k : Nat} {pp : Nat → mS} {n : Nat} {tx : Nat → Nat} {ns : Nat → Int32} {lk : Nat → Int32} {ld : Nat → Int32} {os : Nat → Int32} {olk : Nat → Int32} {old : Nat → Int32} {nx : Int32} {sz : Int32} {rs : Nat → Nat → Int32} {rl : Nat → Nat → Int32} {rd : Nat → Nat → Int32} {zz : Int32} {rc : Int32} {en : Nat → Int32} {sn : Nat → Int64} {nd : Nat → Int32} {ln : Nat → Int32} {tl : Int32} {ce : Int32} {la : Int32} {cd : Nat → Int32} {ke : Int32} {ty : Int32} {th : Int32} {ap : Int32} {ft : Int32} {bo : Int32} {ot : Int32} {il : Int32} {f0 : Nat → Int32} {f1 : Nat → Int32} {f2 : Nat → Int32} {f3 : Nat → Int32} {f4 : Nat → Int32} {qu : Nat → Int32} {fr : Nat → Int32} {by9 : Nat → Int32} {fa : Nat → Int32} {fs : Nat → Int32} {og : Nat → Int64} (hI : INV s k pp n tx ns lk ld nx sz rs rl rd tl cd ke ty il f0 f2 f3 qu fr by9 fa fs) {x a1 a2 : Int32} {tt : Nat} (htt : tt < 512) (h1 : vp_in (x + 1) L) (h2 : vp_in (x + 2) L) (e1 : xs (x + 1).toNatClampNeg = a1) (e2 : xs (x + 2).toNatClampNeg = a2) (hk9 : LH P G b K p q1 q2 o o1 o2 v v1 u u1 u2 t t1 t2 t3 t4 y y1 M A e (46 + (tt + 1)) (24379 + 6 * (tt + 1)) x) : P (46 + tt) (24379 + 6 * tt) 710 [(0, .ref b), (1, .ref K), (2, .ref M), (3, .ref e), (4, .int x)] [] [(K, ob 4 (kF p o v t y)), (p, ob 0 (cR q1 q2 ns)), (q1, aI G 15 lk), (q2, aI G 16 ld), (o, ob 0 (cR o1 o2 os)), (o1, aI G 15 olk), (o2, aI G 16 old), (v, ob 1 (vF v1 nx sz)), (v1, aQ G 6 (fun k => some (u k))), (u 0, ob 0 (cR (u1 0) (u2 0) (rs 0))), (u1 0, aI G 15 (rl 0)), (u2 0, aI G 16 (rd 0)), (u 1, ob 0 (cR (u1 1) (u2 1) (rs 1))), (u1 1, aI G 15 (rl 1)), (u2 1, aI G 16 (rd 1)), (u 2, ob 0 (cR (u1 2) (u2 2) (rs 2))), (u1 2, aI G 15 (rl 2)), (u2 2, aI G 16 (rd 2)), (u 3, ob 0 (cR (u1 3) (u2 3) (rs 3))), (u1 3, aI G 15 (rl 3)), (u2 3, aI G 16 (rd 3)), (u 4, ob 0 (cR (u1 4) (u2 4) (rs 4))), (u1 4, aI G 15 (rl 4)), (u2 4, aI G 16 (rd 4)), (u 5, ob 0 (cR (u1 5) (u2 5) (rs 5))), (u1 5, aI G 15 (rl 5)), (u2 5, aI G 16 (rd 5)), (t, ob 2 (sF t1 t2 t3 t4 zz rc)), (t1, aI G 4624 en), (t2, aJ G 256 sn), (t3, aI G 16 nd), (t4, aI G 16 ln), (y, ob 3 (tF y1 tl ce la)), (y1, aI G 60 cd), (M, ob 5 (mF A ke ty th ap ft bo ot il)), (A 0, aI G 53 f0), (A 1, aI G 53 f1), (A 2, aI G 318 f2), (A 3, aI G 60 f3), (A 4, aI G 48 f4), (A 5, aI G 4624 qu), (A 6, aI G 4624 fr), (A 7, aI G 4624 by9), (A 8, aI G 4624 fa), (A 9, aI G 16 fs), (e, aJ G 1 og)] := by
  obtain ⟨hC, hSv, htl, hn, hcd, hf, hp, hke, hty, ht, hil⟩ := hI
  have hok := hC.1
  have hk : k ≤ 6 := by obtain ⟨j9, -, -, -, h9, -⟩ := hSv; exact h9
  have hsz : sz = nI k := by obtain ⟨j9, -, -, h9, -⟩ := hSv; exact h9
  have hr0 : 46 + tt ≤ room_1.cells ∧ 24379 + 6 * tt ≤ room_1.slots := ⟨by show _ ≤ 601024; omega, by show _ ≤ 7293034; omega⟩
  have hr1 : 46 + tt + 1 ≤ room_1.cells ∧ 24379 + 6 * tt + 6 ≤ room_1.slots := ⟨by show _ ≤ 601024; omega, by show _ ≤ 7293034; omega⟩
  refine st_aload_n C.cx (dk DL_law_9 22 rfl) rfl ?_
  refine st_aload_n C.cx (dk DL_law_9 23 rfl) rfl ?_
  refine st_callH (fun _ _ _ _ h => h.1) C (kw_undo l G hlt hSv) mw_L_undo ms_L_undo mq_RL_118 (dk DL_law_9 24 rfl) [0, 1, 2, 3, 7, 8, 9, 10, 11, 12, 13, 14, 15, 16, 17, 18, 19, 20, 21, 22, 23, 24, 25, 26, 45] (hC_cons rfl (hC_cons rfl (hC_cons rfl (hC_cons rfl (hC_cons rfl (hC_cons rfl (hC_cons rfl (hC_cons rfl (hC_cons rfl (hC_cons rfl (hC_cons rfl (hC_cons rfl (hC_cons rfl (hC_cons rfl (hC_cons rfl (hC_cons rfl (hC_cons rfl (hC_cons rfl (hC_cons rfl (hC_cons rfl (hC_cons rfl (hC_cons rfl (hC_cons rfl (hC_cons rfl (hC_cons rfl (hC_nil)))))))))))))))))))))))))) (by decide +kernel) rfl rfl (Nat.le_of_ble_eq_true rfl) ⟨Nat.le_of_ble_eq_true rfl, Nat.le_of_ble_eq_true rfl⟩ hr1 (fun r9 w9 v9 hq9 => ?_)
  obtain ⟨rfl, hu⟩ := hq9
  rcases hu with ⟨h_1, rfl, ns9, lk9, ld9, nx9, sz9, h_2, h_3, rfl⟩ | ⟨rfl, h_1, rfl⟩
  · simp only [put_cons, put_nil, List.set_cons_zero, List.set_cons_succ, List.append_nil]
    refine st_istore C.cx (dk DL_law_9 25 rfl) (by decide) rfl ?_
    refine st_aload_n C.cx (dk DL_law_9 26 rfl) rfl ?_
    refine st_cV C.cx (k_X6_undo l G (s := s) hke hk hp) mf_X6_undo mi_X6_undo ml_RL_120 (dk DL_law_9 27 rfl) [34, 37, 35] rfl rfl rfl rfl (Nat.le_of_ble_eq_true rfl) rfl rfl ⟨Nat.le_of_ble_eq_true rfl, Nat.le_of_ble_eq_true rfl⟩ hr1 (fun r8 w8 hq8 => ?_)
    rcases hq8 with ⟨g_1, rfl, rfl⟩ | ⟨g_1, rfl, f09r, g_2, rfl⟩
    · exfalso
      first | contradiction | omega
    · simp only [put_cons, put_nil, List.set_cons_zero, List.set_cons_succ, List.append_nil]
      refine st_istore C.cx (dk DL_law_9 28 rfl) (by decide) rfl ?_
      refine st_aload_n C.cx (dk DL_law_9 29 rfl) rfl ?_
      refine st_cV C.cx (k_X6_thrown l G) mf_X6_thrown mi_X6_thrown ml_RL_80 (dk DL_law_9 30 rfl) [34] rfl rfl rfl rfl (Nat.le_of_ble_eq_true rfl) rfl rfl ⟨Nat.le_of_ble_eq_true rfl, Nat.le_of_ble_eq_true rfl⟩ hr1 (fun r9 w9 hq9 => ?_)
      obtain ⟨rfl, rfl⟩ := hq9
      show P _ _ _ _ _ [_, _, _, _, _, _, _, _, _, _, _, _, _, _, _, _, _, _, _, _, _, _, _, _, _, _, _, _, _, _, _, _, _, _, _, _, _, _, _, _, _, _, _, _, _, _]
      refine st_iload C.cx (dk DL_law_9 31 rfl) rfl ?_
      refine st_icmp_eq C.cx (tgt := 734) (dk DL_law_9 32 rfl) (by decide) (fun c_729 => ?_) (fun c_729 => ?_)
      · refine st_iload C.cx (dk DL_law_9 35 rfl) rfl ?_
        refine st_if_ne C.cx (tgt := 751) (dk DL_law_9 36 rfl) (by decide) (fun c_736 => ?_) (fun c_736 => ?_)
        · exact absurd rfl c_736
        · refine st_aload_n C.cx (dk DL_law_9 37 rfl) rfl ?_
          refine st_iconst C.cx (v := 0) (dk DL_law_9 38 rfl) (by decide) ?_
          refine st_lald C.cx (dk DL_law_9 39 rfl) 45 rfl (by unfold vp_in; decide) ?_
          refine st_iload C.cx (dk DL_law_10 0 rfl) rfl ?_
          refine st_i2l C.cx (dk DL_law_10 1 rfl) ?_
          refine st_lcmp C.cx (dk DL_law_10 2 rfl) ?_
          refine st_if_eq C.cx (tgt := 751) (dk DL_law_10 3 rfl) (by decide) (fun c_746 => ?_) (fun c_746 => ?_)
          · refine st_goto C.cx (tgt := 1250) (dk DL_law_10 6 rfl) (by decide) ?_
            refine st_lv C.cx [0, 1, 2, 3, 4] rfl ?_
            refine st_wide C.cx (k' := 46 + (tt + 1)) (n' := 24379 + 6 * (tt + 1)) (by omega) (by omega) ?_
            exact hk9 (pp (k - 1)) (k - 1) pp n tx ns9 lk9 ld9 os olk old nx9 sz9 rs rl rd zz rc en sn nd ln tl ce la cd (nI (k - 1)) ty 0 ap ft bo ot 0 f09r f1 f2 f3 f4 qu fr by9 fa fs (vp_updL og 0 (Int32.toInt64 (nI (k - 1)))) ⟨h_2, h_3, htl, hn, hcd, g_2, fun i9 h9 => hp i9 (by omega), rfl, hty, ht, Or.inl rfl⟩
          · exact absurd ((lg_cmp0 _ _).mpr rfl) c_746
      · exact absurd rfl c_729
  · simp only [put_cons, put_nil, List.set_cons_zero, List.set_cons_succ, List.append_nil]
    refine st_istore C.cx (dk DL_law_9 25 rfl) (by decide) rfl ?_
    refine st_aload_n C.cx (dk DL_law_9 26 rfl) rfl ?_
    refine st_cV C.cx (k_X6_undo l G (s := s) hke hk hp) mf_X6_undo mi_X6_undo ml_RL_120 (dk DL_law_9 27 rfl) [34, 37, 35] rfl rfl rfl rfl (Nat.le_of_ble_eq_true rfl) rfl rfl ⟨Nat.le_of_ble_eq_true rfl, Nat.le_of_ble_eq_true rfl⟩ hr1 (fun r8 w8 hq8 => ?_)
    rcases hq8 with ⟨g_1, rfl, rfl⟩ | ⟨g_1, rfl, f09r, g_2, rfl⟩
    · simp only [put_cons, put_nil, List.set_cons_zero, List.set_cons_succ, List.append_nil]
      refine st_istore C.cx (dk DL_law_9 28 rfl) (by decide) rfl ?_
      refine st_aload_n C.cx (dk DL_law_9 29 rfl) rfl ?_
      refine st_cV C.cx (k_X6_thrown l G) mf_X6_thrown mi_X6_thrown ml_RL_80 (dk DL_law_9 30 rfl) [34] rfl rfl rfl rfl (Nat.le_of_ble_eq_true rfl) rfl rfl ⟨Nat.le_of_ble_eq_true rfl, Nat.le_of_ble_eq_true rfl⟩ hr1 (fun r9 w9 hq9 => ?_)
      obtain ⟨rfl, rfl⟩ := hq9
      show P _ _ _ _ _ [_, _, _, _, _, _, _, _, _, _, _, _, _, _, _, _, _, _, _, _, _, _, _, _, _, _, _, _, _, _, _, _, _, _, _, _, _, _, _, _, _, _, _, _, _, _]
      refine st_iload C.cx (dk DL_law_9 31 rfl) rfl ?_
      refine st_icmp_eq C.cx (tgt := 734) (dk DL_law_9 32 rfl) (by decide) (fun c_729 => ?_) (fun c_729 => ?_)
      · refine st_iload C.cx (dk DL_law_9 35 rfl) rfl ?_
        refine st_if_ne C.cx (tgt := 751) (dk DL_law_9 36 rfl) (by decide) (fun c_736 => ?_) (fun c_736 => ?_)
        · refine st_goto C.cx (tgt := 1250) (dk DL_law_10 6 rfl) (by decide) ?_
          refine st_lv C.cx [0, 1, 2, 3, 4] rfl ?_
          refine st_wide C.cx (k' := 46 + (tt + 1)) (n' := 24379 + 6 * (tt + 1)) (by omega) (by omega) ?_
          exact hk9 s k pp n tx ns lk ld os olk old nx sz rs rl rd zz rc en sn nd ln tl ce la cd ke ty 1 ap ft bo ot il f0 f1 f2 f3 f4 qu fr by9 fa fs og ⟨hC, hSv, htl, hn, hcd, hf, hp, hke, hty, ht, hil⟩
        · exact absurd c_736 (by decide)
      · exact absurd rfl c_729
    · exfalso
      first | contradiction | omega
set_option maxHeartbeats 8000000 in
set_option maxRecDepth 100000 in
theorem lc_cell {l : Launch} {G : wG} (hlt : l.stackTraces = false) {L : Nat} {xs : Nat → Int32} {P : PT} {nm9 : String} {b K p q1 q2 o o1 o2 v v1 : Nat} {u u1 u2 : Nat → Nat} {t t1 t2 t3 t4 y y1 M : Nat} {A : Nat → Nat} {e : Nat} (C : Cv l G RL cL_law 9 nm9 room_1 (exL b L xs) P) {s : mS} {k : Nat} {pp : Nat → mS} {n : Nat} {tx : Nat → Nat} {ns : Nat → Int32} {lk : Nat → Int32} {ld : Nat → Int32} {os : Nat → Int32} {olk : Nat → Int32} {old : Nat → Int32} {nx : Int32} {sz : Int32} {rs : Nat → Nat → Int32} {rl : Nat → Nat → Int32} {rd : Nat → Nat → Int32} {zz : Int32} {rc : Int32} {en : Nat → Int32} {sn : Nat → Int64} {nd : Nat → Int32} {ln : Nat → Int32} {tl : Int32} {ce : Int32} {la : Int32} {cd : Nat → Int32} {ke : Int32} {ty : Int32} {th : Int32} {ap : Int32} {ft : Int32} {bo : Int32} {ot : Int32} {il : Int32} {f0 : Nat → Int32} {f1 : Nat → Int32} {f2 : Nat → Int32} {f3 : Nat → Int32} {f4 : Nat → Int32} {qu : Nat → Int32} {fr : Nat → Int32} {by9 : Nat → Int32} {fa : Nat → Int32} {fs : Nat → Int32} {og : Nat → Int64} (hI : INV s k pp n tx ns lk ld nx sz rs rl rd tl cd ke ty il f0 f2 f3 qu fr by9 fa fs) {x a1 a2 : Int32} {tt : Nat} (htt : tt < 512) (h1 : vp_in (x + 1) L) (h2 : vp_in (x + 2) L) (e1 : xs (x + 1).toNatClampNeg = a1) (e2 : xs (x + 2).toNatClampNeg = a2) (hk9 : LH P G b K p q1 q2 o o1 o2 v v1 u u1 u2 t t1 t2 t3 t4 y y1 M A e (46 + (tt + 1)) (24379 + 6 * (tt + 1)) x) : P (46 + tt) (24379 + 6 * tt) 754 [(0, .ref b), (1, .ref K), (2, .ref M), (3, .ref e), (4, .int x)] [] [(K, ob 4 (kF p o v t y)), (p, ob 0 (cR q1 q2 ns)), (q1, aI G 15 lk), (q2, aI G 16 ld), (o, ob 0 (cR o1 o2 os)), (o1, aI G 15 olk), (o2, aI G 16 old), (v, ob 1 (vF v1 nx sz)), (v1, aQ G 6 (fun k => some (u k))), (u 0, ob 0 (cR (u1 0) (u2 0) (rs 0))), (u1 0, aI G 15 (rl 0)), (u2 0, aI G 16 (rd 0)), (u 1, ob 0 (cR (u1 1) (u2 1) (rs 1))), (u1 1, aI G 15 (rl 1)), (u2 1, aI G 16 (rd 1)), (u 2, ob 0 (cR (u1 2) (u2 2) (rs 2))), (u1 2, aI G 15 (rl 2)), (u2 2, aI G 16 (rd 2)), (u 3, ob 0 (cR (u1 3) (u2 3) (rs 3))), (u1 3, aI G 15 (rl 3)), (u2 3, aI G 16 (rd 3)), (u 4, ob 0 (cR (u1 4) (u2 4) (rs 4))), (u1 4, aI G 15 (rl 4)), (u2 4, aI G 16 (rd 4)), (u 5, ob 0 (cR (u1 5) (u2 5) (rs 5))), (u1 5, aI G 15 (rl 5)), (u2 5, aI G 16 (rd 5)), (t, ob 2 (sF t1 t2 t3 t4 zz rc)), (t1, aI G 4624 en), (t2, aJ G 256 sn), (t3, aI G 16 nd), (t4, aI G 16 ln), (y, ob 3 (tF y1 tl ce la)), (y1, aI G 60 cd), (M, ob 5 (mF A ke ty th ap ft bo ot il)), (A 0, aI G 53 f0), (A 1, aI G 53 f1), (A 2, aI G 318 f2), (A 3, aI G 60 f3), (A 4, aI G 48 f4), (A 5, aI G 4624 qu), (A 6, aI G 4624 fr), (A 7, aI G 4624 by9), (A 8, aI G 4624 fa), (A 9, aI G 16 fs), (e, aJ G 1 og)] := by
  obtain ⟨hC, hSv, htl, hn, hcd, hf, hp, hke, hty, ht, hil⟩ := hI
  have hok := hC.1
  have hk : k ≤ 6 := by obtain ⟨j9, -, -, -, h9, -⟩ := hSv; exact h9
  have hsz : sz = nI k := by obtain ⟨j9, -, -, h9, -⟩ := hSv; exact h9
  have hr0 : 46 + tt ≤ room_1.cells ∧ 24379 + 6 * tt ≤ room_1.slots := ⟨by show _ ≤ 601024; omega, by show _ ≤ 7293034; omega⟩
  have hr1 : 46 + tt + 1 ≤ room_1.cells ∧ 24379 + 6 * tt + 6 ≤ room_1.slots := ⟨by show _ ≤ 601024; omega, by show _ ≤ 7293034; omega⟩
  refine st_aload_n C.cx (dk DL_law_10 7 rfl) rfl ?_
  refine st_aload_n C.cx (dk DL_law_10 8 rfl) rfl ?_
  refine st_iload C.cx (dk DL_law_10 9 rfl) rfl ?_
  refine st_iconst C.cx (v := 1) (dk DL_law_10 10 rfl) (by decide) ?_
  refine st_iadd C.cx (dk DL_law_10 11 rfl) ?_
  refine st_sld C (dk DL_law_10 12 rfl) h1 e1 ?_
  refine st_aload_n C.cx (dk DL_law_10 13 rfl) rfl ?_
  refine st_iload C.cx (dk DL_law_10 14 rfl) rfl ?_
  refine st_iconst C.cx (v := 2) (dk DL_law_10 15 rfl) (by decide) ?_
  refine st_iadd C.cx (dk DL_law_10 16 rfl) ?_
  refine st_sld C (dk DL_law_10 17 rfl) h2 e2 ?_
  refine st_aload_n C.cx (dk DL_law_10 18 rfl) rfl ?_
  refine st_callH (fun _ _ _ _ h => h.1) C (kw_cell l G hlt hC) mw_L_cell ms_L_cell mq_RL_121 (dk DL_law_10 19 rfl) [0, 1, 2, 3, 27, 28, 29, 30, 31, 45] rfl rfl rfl rfl (Nat.le_of_ble_eq_true rfl) ⟨Nat.le_of_ble_eq_true rfl, Nat.le_of_ble_eq_true rfl⟩ hr1 (fun r9 w9 v9 hq9 => ?_)
  obtain ⟨rfl, hu⟩ := hq9
  rcases hu with ⟨j, i, h_1, h_2, h_3, h_4, rfl, zz9, rc9, en9, sn9, nd9, ln9, rfl⟩ | ⟨rfl, h_1, rfl⟩ | ⟨rfl, h_1, h_2, rfl⟩
  · simp only [put_cons, put_nil, List.set_cons_zero, List.set_cons_succ, List.append_nil]
    have qh_j : isN a1 15 := ⟨j, h_1, h_3⟩
    have qh_i : isN a2 6 := ⟨i, h_2, h_4⟩
    refine st_istore C.cx (dk DL_law_10 20 rfl) (by decide) rfl ?_
    refine st_aload_n C.cx (dk DL_law_10 21 rfl) rfl ?_
    refine st_aload_n C.cx (dk DL_law_10 22 rfl) rfl ?_
    refine st_iload C.cx (dk DL_law_10 23 rfl) rfl ?_
    refine st_iconst C.cx (v := 1) (dk DL_law_10 24 rfl) (by decide) ?_
    refine st_iadd C.cx (dk DL_law_10 25 rfl) ?_
    refine st_sld C (dk DL_law_10 26 rfl) h1 e1 ?_
    refine st_aload_n C.cx (dk DL_law_10 27 rfl) rfl ?_
    refine st_iload C.cx (dk DL_law_10 28 rfl) rfl ?_
    refine st_iconst C.cx (v := 2) (dk DL_law_10 29 rfl) (by decide) ?_
    refine st_iadd C.cx (dk DL_law_10 30 rfl) ?_
    refine st_sld C (dk DL_law_10 31 rfl) h2 e2 ?_
    refine st_cV C.cx (k_X6_cell l G hf hok hil) mf_X6_cell mi_X6_cell ml_RL_123 (dk DL_law_10 32 rfl) [34, 35, 40, 41, 42, 43, 44] rfl rfl rfl rfl (Nat.le_of_ble_eq_true rfl) rfl rfl ⟨Nat.le_of_ble_eq_true rfl, Nat.le_of_ble_eq_true rfl⟩ hr1 (fun r8 w8 hq8 => ?_)
    rcases hq8 with ⟨g_1, rfl, rfl⟩ | ⟨g_1, g_2, rfl, rfl⟩ | ⟨jr, ir, g_1, g_2, g_3, g_4, rfl, bo9r, ot9r, qu9r, fr9r, by99r, fa9r, fs9r, g_5, rfl⟩
    · exfalso
      first | contradiction | omega
    · exfalso
      first | contradiction | omega
    · have qg_j : isN a1 15 := ⟨jr, g_1, g_3⟩
      have qg_i : isN a2 6 := ⟨ir, g_2, g_4⟩
      obtain rfl := (u_nI h_3 g_3 (by omega) (by omega)).symm
      obtain rfl := (u_nI h_4 g_4 (by omega) (by omega)).symm
      simp only [put_cons, put_nil, List.set_cons_zero, List.set_cons_succ, List.append_nil]
      refine st_istore C.cx (dk DL_law_10 33 rfl) (by decide) rfl ?_
      refine st_aload_n C.cx (dk DL_law_10 34 rfl) rfl ?_
      refine st_cV C.cx (k_X6_thrown l G) mf_X6_thrown mi_X6_thrown ml_RL_80 (dk DL_law_10 35 rfl) [34] rfl rfl rfl rfl (Nat.le_of_ble_eq_true rfl) rfl rfl ⟨Nat.le_of_ble_eq_true rfl, Nat.le_of_ble_eq_true rfl⟩ hr1 (fun r9 w9 hq9 => ?_)
      obtain ⟨rfl, rfl⟩ := hq9
      show P _ _ _ _ _ [_, _, _, _, _, _, _, _, _, _, _, _, _, _, _, _, _, _, _, _, _, _, _, _, _, _, _, _, _, _, _, _, _, _, _, _, _, _, _, _, _, _, _, _, _, _]
      refine st_iload C.cx (dk DL_law_10 36 rfl) rfl ?_
      refine st_icmp_eq C.cx (tgt := 802) (dk DL_law_10 37 rfl) (by decide) (fun c_797 => ?_) (fun c_797 => ?_)
      · refine st_iload C.cx (dk DL_law_11 0 rfl) rfl ?_
        refine st_if_ne C.cx (tgt := 819) (dk DL_law_11 1 rfl) (by decide) (fun c_804 => ?_) (fun c_804 => ?_)
        · exact absurd rfl c_804
        · refine st_aload_n C.cx (dk DL_law_11 2 rfl) rfl ?_
          refine st_iconst C.cx (v := 0) (dk DL_law_11 3 rfl) (by decide) ?_
          refine st_lald C.cx (dk DL_law_11 4 rfl) 45 rfl (by unfold vp_in; decide) ?_
          refine st_iload C.cx (dk DL_law_11 5 rfl) rfl ?_
          refine st_i2l C.cx (dk DL_law_11 6 rfl) ?_
          refine st_lcmp C.cx (dk DL_law_11 7 rfl) ?_
          refine st_if_eq C.cx (tgt := 819) (dk DL_law_11 8 rfl) (by decide) (fun c_814 => ?_) (fun c_814 => ?_)
          · refine st_goto C.cx (tgt := 1250) (dk DL_law_11 11 rfl) (by decide) ?_
            refine st_lv C.cx [0, 1, 2, 3, 4] rfl ?_
            refine st_wide C.cx (k' := 46 + (tt + 1)) (n' := 24379 + 6 * (tt + 1)) (by omega) (by omega) ?_
            exact hk9 s k pp n tx ns lk ld os olk old nx sz rs rl rd zz9 rc9 en9 sn9 nd9 ln9 tl ce la cd ke ty 0 ap ft bo9r ot9r 1 f0 f1 f2 f3 f4 qu9r fr9r by99r fa9r fs9r (vp_updL og 0 (Int32.toInt64 (ofI s j i))) ⟨hC, hSv, htl, hn, hcd, hf, hp, hke, hty, ht, Or.inr ⟨rfl, g_5⟩⟩
          · exact absurd ((lg_cmp0 _ _).mpr rfl) c_814
      · exact absurd rfl c_797
  · simp only [put_cons, put_nil, List.set_cons_zero, List.set_cons_succ, List.append_nil]
    refine st_istore C.cx (dk DL_law_10 20 rfl) (by decide) rfl ?_
    refine st_aload_n C.cx (dk DL_law_10 21 rfl) rfl ?_
    refine st_aload_n C.cx (dk DL_law_10 22 rfl) rfl ?_
    refine st_iload C.cx (dk DL_law_10 23 rfl) rfl ?_
    refine st_iconst C.cx (v := 1) (dk DL_law_10 24 rfl) (by decide) ?_
    refine st_iadd C.cx (dk DL_law_10 25 rfl) ?_
    refine st_sld C (dk DL_law_10 26 rfl) h1 e1 ?_
    refine st_aload_n C.cx (dk DL_law_10 27 rfl) rfl ?_
    refine st_iload C.cx (dk DL_law_10 28 rfl) rfl ?_
    refine st_iconst C.cx (v := 2) (dk DL_law_10 29 rfl) (by decide) ?_
    refine st_iadd C.cx (dk DL_law_10 30 rfl) ?_
    refine st_sld C (dk DL_law_10 31 rfl) h2 e2 ?_
    refine st_cV C.cx (k_X6_cell l G hf hok hil) mf_X6_cell mi_X6_cell ml_RL_123 (dk DL_law_10 32 rfl) [34, 35, 40, 41, 42, 43, 44] rfl rfl rfl rfl (Nat.le_of_ble_eq_true rfl) rfl rfl ⟨Nat.le_of_ble_eq_true rfl, Nat.le_of_ble_eq_true rfl⟩ hr1 (fun r8 w8 hq8 => ?_)
    rcases hq8 with ⟨g_1, rfl, rfl⟩ | ⟨g_1, g_2, rfl, rfl⟩ | ⟨jr, ir, g_1, g_2, g_3, g_4, rfl, bo9r, ot9r, qu9r, fr9r, by99r, fa9r, fs9r, g_5, rfl⟩
    · simp only [put_cons, put_nil, List.set_cons_zero, List.set_cons_succ, List.append_nil]
      refine st_istore C.cx (dk DL_law_10 33 rfl) (by decide) rfl ?_
      refine st_aload_n C.cx (dk DL_law_10 34 rfl) rfl ?_
      refine st_cV C.cx (k_X6_thrown l G) mf_X6_thrown mi_X6_thrown ml_RL_80 (dk DL_law_10 35 rfl) [34] rfl rfl rfl rfl (Nat.le_of_ble_eq_true rfl) rfl rfl ⟨Nat.le_of_ble_eq_true rfl, Nat.le_of_ble_eq_true rfl⟩ hr1 (fun r9 w9 hq9 => ?_)
      obtain ⟨rfl, rfl⟩ := hq9
      show P _ _ _ _ _ [_, _, _, _, _, _, _, _, _, _, _, _, _, _, _, _, _, _, _, _, _, _, _, _, _, _, _, _, _, _, _, _, _, _, _, _, _, _, _, _, _, _, _, _, _, _]
      refine st_iload C.cx (dk DL_law_10 36 rfl) rfl ?_
      refine st_icmp_eq C.cx (tgt := 802) (dk DL_law_10 37 rfl) (by decide) (fun c_797 => ?_) (fun c_797 => ?_)
      · refine st_iload C.cx (dk DL_law_11 0 rfl) rfl ?_
        refine st_if_ne C.cx (tgt := 819) (dk DL_law_11 1 rfl) (by decide) (fun c_804 => ?_) (fun c_804 => ?_)
        · refine st_goto C.cx (tgt := 1250) (dk DL_law_11 11 rfl) (by decide) ?_
          refine st_lv C.cx [0, 1, 2, 3, 4] rfl ?_
          refine st_wide C.cx (k' := 46 + (tt + 1)) (n' := 24379 + 6 * (tt + 1)) (by omega) (by omega) ?_
          exact hk9 s k pp n tx ns lk ld os olk old nx sz rs rl rd zz rc en sn nd ln tl ce la cd ke ty 1 ap ft bo ot il f0 f1 f2 f3 f4 qu fr by9 fa fs og ⟨hC, hSv, htl, hn, hcd, hf, hp, hke, hty, ht, hil⟩
        · exact absurd c_804 (by decide)
      · exact absurd rfl c_797
    · exfalso
      first | contradiction | omega
    · have qg_j : isN a1 15 := ⟨jr, g_1, g_3⟩
      have qg_i : isN a2 6 := ⟨ir, g_2, g_4⟩
      exfalso
      first | contradiction | omega
  · simp only [put_cons, put_nil, List.set_cons_zero, List.set_cons_succ, List.append_nil]
    refine st_istore C.cx (dk DL_law_10 20 rfl) (by decide) rfl ?_
    refine st_aload_n C.cx (dk DL_law_10 21 rfl) rfl ?_
    refine st_aload_n C.cx (dk DL_law_10 22 rfl) rfl ?_
    refine st_iload C.cx (dk DL_law_10 23 rfl) rfl ?_
    refine st_iconst C.cx (v := 1) (dk DL_law_10 24 rfl) (by decide) ?_
    refine st_iadd C.cx (dk DL_law_10 25 rfl) ?_
    refine st_sld C (dk DL_law_10 26 rfl) h1 e1 ?_
    refine st_aload_n C.cx (dk DL_law_10 27 rfl) rfl ?_
    refine st_iload C.cx (dk DL_law_10 28 rfl) rfl ?_
    refine st_iconst C.cx (v := 2) (dk DL_law_10 29 rfl) (by decide) ?_
    refine st_iadd C.cx (dk DL_law_10 30 rfl) ?_
    refine st_sld C (dk DL_law_10 31 rfl) h2 e2 ?_
    refine st_cV C.cx (k_X6_cell l G hf hok hil) mf_X6_cell mi_X6_cell ml_RL_123 (dk DL_law_10 32 rfl) [34, 35, 40, 41, 42, 43, 44] rfl rfl rfl rfl (Nat.le_of_ble_eq_true rfl) rfl rfl ⟨Nat.le_of_ble_eq_true rfl, Nat.le_of_ble_eq_true rfl⟩ hr1 (fun r8 w8 hq8 => ?_)
    rcases hq8 with ⟨g_1, rfl, rfl⟩ | ⟨g_1, g_2, rfl, rfl⟩ | ⟨jr, ir, g_1, g_2, g_3, g_4, rfl, bo9r, ot9r, qu9r, fr9r, by99r, fa9r, fs9r, g_5, rfl⟩
    · exfalso
      first | contradiction | omega
    · simp only [put_cons, put_nil, List.set_cons_zero, List.set_cons_succ, List.append_nil]
      refine st_istore C.cx (dk DL_law_10 33 rfl) (by decide) rfl ?_
      refine st_aload_n C.cx (dk DL_law_10 34 rfl) rfl ?_
      refine st_cV C.cx (k_X6_thrown l G) mf_X6_thrown mi_X6_thrown ml_RL_80 (dk DL_law_10 35 rfl) [34] rfl rfl rfl rfl (Nat.le_of_ble_eq_true rfl) rfl rfl ⟨Nat.le_of_ble_eq_true rfl, Nat.le_of_ble_eq_true rfl⟩ hr1 (fun r9 w9 hq9 => ?_)
      obtain ⟨rfl, rfl⟩ := hq9
      show P _ _ _ _ _ [_, _, _, _, _, _, _, _, _, _, _, _, _, _, _, _, _, _, _, _, _, _, _, _, _, _, _, _, _, _, _, _, _, _, _, _, _, _, _, _, _, _, _, _, _, _]
      refine st_iload C.cx (dk DL_law_10 36 rfl) rfl ?_
      refine st_icmp_eq C.cx (tgt := 802) (dk DL_law_10 37 rfl) (by decide) (fun c_797 => ?_) (fun c_797 => ?_)
      · refine st_iload C.cx (dk DL_law_11 0 rfl) rfl ?_
        refine st_if_ne C.cx (tgt := 819) (dk DL_law_11 1 rfl) (by decide) (fun c_804 => ?_) (fun c_804 => ?_)
        · refine st_goto C.cx (tgt := 1250) (dk DL_law_11 11 rfl) (by decide) ?_
          refine st_lv C.cx [0, 1, 2, 3, 4] rfl ?_
          refine st_wide C.cx (k' := 46 + (tt + 1)) (n' := 24379 + 6 * (tt + 1)) (by omega) (by omega) ?_
          exact hk9 s k pp n tx ns lk ld os olk old nx sz rs rl rd zz rc en sn nd ln tl ce la cd ke ty 2 ap ft bo ot il f0 f1 f2 f3 f4 qu fr by9 fa fs og ⟨hC, hSv, htl, hn, hcd, hf, hp, hke, hty, ht, hil⟩
        · exact absurd c_804 (by decide)
      · exact absurd rfl c_797
    · have qg_j : isN a1 15 := ⟨jr, g_1, g_3⟩
      have qg_i : isN a2 6 := ⟨ir, g_2, g_4⟩
      exfalso
      first | contradiction | omega
set_option maxHeartbeats 8000000 in
set_option maxRecDepth 100000 in
theorem lc_walker {l : Launch} {G : wG} (hlt : l.stackTraces = false) {L : Nat} {xs : Nat → Int32} {P : PT} {nm9 : String} {b K p q1 q2 o o1 o2 v v1 : Nat} {u u1 u2 : Nat → Nat} {t t1 t2 t3 t4 y y1 M : Nat} {A : Nat → Nat} {e : Nat} (C : Cv l G RL cL_law 9 nm9 room_1 (exL b L xs) P) {s : mS} {k : Nat} {pp : Nat → mS} {n : Nat} {tx : Nat → Nat} {ns : Nat → Int32} {lk : Nat → Int32} {ld : Nat → Int32} {os : Nat → Int32} {olk : Nat → Int32} {old : Nat → Int32} {nx : Int32} {sz : Int32} {rs : Nat → Nat → Int32} {rl : Nat → Nat → Int32} {rd : Nat → Nat → Int32} {zz : Int32} {rc : Int32} {en : Nat → Int32} {sn : Nat → Int64} {nd : Nat → Int32} {ln : Nat → Int32} {tl : Int32} {ce : Int32} {la : Int32} {cd : Nat → Int32} {ke : Int32} {ty : Int32} {th : Int32} {ap : Int32} {ft : Int32} {bo : Int32} {ot : Int32} {il : Int32} {f0 : Nat → Int32} {f1 : Nat → Int32} {f2 : Nat → Int32} {f3 : Nat → Int32} {f4 : Nat → Int32} {qu : Nat → Int32} {fr : Nat → Int32} {by9 : Nat → Int32} {fa : Nat → Int32} {fs : Nat → Int32} {og : Nat → Int64} (hI : INV s k pp n tx ns lk ld nx sz rs rl rd tl cd ke ty il f0 f2 f3 qu fr by9 fa fs) {x a1 a2 : Int32} {tt : Nat} (htt : tt < 512) (h1 : vp_in (x + 1) L) (h2 : vp_in (x + 2) L) (e1 : xs (x + 1).toNatClampNeg = a1) (e2 : xs (x + 2).toNatClampNeg = a2) (hk9 : LH P G b K p q1 q2 o o1 o2 v v1 u u1 u2 t t1 t2 t3 t4 y y1 M A e (46 + (tt + 1)) (24379 + 6 * (tt + 1)) x) : P (46 + tt) (24379 + 6 * tt) 822 [(0, .ref b), (1, .ref K), (2, .ref M), (3, .ref e), (4, .int x)] [] [(K, ob 4 (kF p o v t y)), (p, ob 0 (cR q1 q2 ns)), (q1, aI G 15 lk), (q2, aI G 16 ld), (o, ob 0 (cR o1 o2 os)), (o1, aI G 15 olk), (o2, aI G 16 old), (v, ob 1 (vF v1 nx sz)), (v1, aQ G 6 (fun k => some (u k))), (u 0, ob 0 (cR (u1 0) (u2 0) (rs 0))), (u1 0, aI G 15 (rl 0)), (u2 0, aI G 16 (rd 0)), (u 1, ob 0 (cR (u1 1) (u2 1) (rs 1))), (u1 1, aI G 15 (rl 1)), (u2 1, aI G 16 (rd 1)), (u 2, ob 0 (cR (u1 2) (u2 2) (rs 2))), (u1 2, aI G 15 (rl 2)), (u2 2, aI G 16 (rd 2)), (u 3, ob 0 (cR (u1 3) (u2 3) (rs 3))), (u1 3, aI G 15 (rl 3)), (u2 3, aI G 16 (rd 3)), (u 4, ob 0 (cR (u1 4) (u2 4) (rs 4))), (u1 4, aI G 15 (rl 4)), (u2 4, aI G 16 (rd 4)), (u 5, ob 0 (cR (u1 5) (u2 5) (rs 5))), (u1 5, aI G 15 (rl 5)), (u2 5, aI G 16 (rd 5)), (t, ob 2 (sF t1 t2 t3 t4 zz rc)), (t1, aI G 4624 en), (t2, aJ G 256 sn), (t3, aI G 16 nd), (t4, aI G 16 ln), (y, ob 3 (tF y1 tl ce la)), (y1, aI G 60 cd), (M, ob 5 (mF A ke ty th ap ft bo ot il)), (A 0, aI G 53 f0), (A 1, aI G 53 f1), (A 2, aI G 318 f2), (A 3, aI G 60 f3), (A 4, aI G 48 f4), (A 5, aI G 4624 qu), (A 6, aI G 4624 fr), (A 7, aI G 4624 by9), (A 8, aI G 4624 fa), (A 9, aI G 16 fs), (e, aJ G 1 og)] := by
  obtain ⟨hC, hSv, htl, hn, hcd, hf, hp, hke, hty, ht, hil⟩ := hI
  have hok := hC.1
  have hk : k ≤ 6 := by obtain ⟨j9, -, -, -, h9, -⟩ := hSv; exact h9
  have hsz : sz = nI k := by obtain ⟨j9, -, -, h9, -⟩ := hSv; exact h9
  have hr0 : 46 + tt ≤ room_1.cells ∧ 24379 + 6 * tt ≤ room_1.slots := ⟨by show _ ≤ 601024; omega, by show _ ≤ 7293034; omega⟩
  have hr1 : 46 + tt + 1 ≤ room_1.cells ∧ 24379 + 6 * tt + 6 ≤ room_1.slots := ⟨by show _ ≤ 601024; omega, by show _ ≤ 7293034; omega⟩
  refine st_aload_n C.cx (dk DL_law_11 12 rfl) rfl ?_
  refine st_aload_n C.cx (dk DL_law_11 13 rfl) rfl ?_
  refine st_iload C.cx (dk DL_law_11 14 rfl) rfl ?_
  refine st_iconst C.cx (v := 1) (dk DL_law_11 15 rfl) (by decide) ?_
  refine st_iadd C.cx (dk DL_law_11 16 rfl) ?_
  refine st_sld C (dk DL_law_11 17 rfl) h1 e1 ?_
  refine st_aload_n C.cx (dk DL_law_11 18 rfl) rfl ?_
  refine st_callH (fun _ _ _ _ h => h.1) C (kw_walker l G hlt hC) mw_L_walker ms_L_walker mq_RL_124 (dk DL_law_11 19 rfl) [0, 1, 2, 3, 45] rfl rfl rfl rfl (Nat.le_of_ble_eq_true rfl) ⟨Nat.le_of_ble_eq_true rfl, Nat.le_of_ble_eq_true rfl⟩ hr1 (fun r9 w9 v9 hq9 => ?_)
  obtain ⟨rfl, hu⟩ := hq9
  rcases hu with ⟨j, h_1, h_2, rfl, rfl⟩ | ⟨rfl, h_1, rfl⟩
  · simp only [put_cons, put_nil, List.set_cons_zero, List.set_cons_succ, List.append_nil]
    have qh_j : isN a1 4 := ⟨j, h_1, h_2⟩
    refine st_istore C.cx (dk DL_law_11 20 rfl) (by decide) rfl ?_
    refine st_aload_n C.cx (dk DL_law_11 21 rfl) rfl ?_
    refine st_aload_n C.cx (dk DL_law_11 22 rfl) rfl ?_
    refine st_iload C.cx (dk DL_law_11 23 rfl) rfl ?_
    refine st_iconst C.cx (v := 1) (dk DL_law_11 24 rfl) (by decide) ?_
    refine st_iadd C.cx (dk DL_law_11 25 rfl) ?_
    refine st_sld C (dk DL_law_11 26 rfl) h1 e1 ?_
    refine st_cV C.cx (k_X6_walker l G hf) mf_X6_walker mi_X6_walker ml_RL_126 (dk DL_law_11 27 rfl) [34, 35] rfl rfl rfl rfl (Nat.le_of_ble_eq_true rfl) rfl rfl ⟨Nat.le_of_ble_eq_true rfl, Nat.le_of_ble_eq_true rfl⟩ hr1 (fun r8 w8 hq8 => ?_)
    rcases hq8 with ⟨g_1, rfl, rfl⟩ | ⟨jr, g_1, g_2, rfl, rfl⟩
    · exfalso
      first | contradiction | omega
    · have qg_j : isN a1 4 := ⟨jr, g_1, g_2⟩
      obtain rfl := (u_nI h_2 g_2 (by omega) (by omega)).symm
      simp only [put_cons, put_nil, List.set_cons_zero, List.set_cons_succ, List.append_nil]
      refine st_istore C.cx (dk DL_law_11 28 rfl) (by decide) rfl ?_
      refine st_aload_n C.cx (dk DL_law_11 29 rfl) rfl ?_
      refine st_cV C.cx (k_X6_thrown l G) mf_X6_thrown mi_X6_thrown ml_RL_80 (dk DL_law_11 30 rfl) [34] rfl rfl rfl rfl (Nat.le_of_ble_eq_true rfl) rfl rfl ⟨Nat.le_of_ble_eq_true rfl, Nat.le_of_ble_eq_true rfl⟩ hr1 (fun r9 w9 hq9 => ?_)
      obtain ⟨rfl, rfl⟩ := hq9
      show P _ _ _ _ _ [_, _, _, _, _, _, _, _, _, _, _, _, _, _, _, _, _, _, _, _, _, _, _, _, _, _, _, _, _, _, _, _, _, _, _, _, _, _, _, _, _, _, _, _, _, _]
      refine st_iload C.cx (dk DL_law_11 31 rfl) rfl ?_
      refine st_icmp_eq C.cx (tgt := 858) (dk DL_law_11 32 rfl) (by decide) (fun c_853 => ?_) (fun c_853 => ?_)
      · refine st_iload C.cx (dk DL_law_11 35 rfl) rfl ?_
        refine st_if_ne C.cx (tgt := 875) (dk DL_law_11 36 rfl) (by decide) (fun c_860 => ?_) (fun c_860 => ?_)
        · exact absurd rfl c_860
        · refine st_aload_n C.cx (dk DL_law_11 37 rfl) rfl ?_
          refine st_iconst C.cx (v := 0) (dk DL_law_11 38 rfl) (by decide) ?_
          refine st_lald C.cx (dk DL_law_11 39 rfl) 45 rfl (by unfold vp_in; decide) ?_
          refine st_iload C.cx (dk DL_law_12 0 rfl) rfl ?_
          refine st_i2l C.cx (dk DL_law_12 1 rfl) ?_
          refine st_lcmp C.cx (dk DL_law_12 2 rfl) ?_
          refine st_if_eq C.cx (tgt := 875) (dk DL_law_12 3 rfl) (by decide) (fun c_870 => ?_) (fun c_870 => ?_)
          · refine st_goto C.cx (tgt := 1250) (dk DL_law_12 6 rfl) (by decide) ?_
            refine st_lv C.cx [0, 1, 2, 3, 4] rfl ?_
            refine st_wide C.cx (k' := 46 + (tt + 1)) (n' := 24379 + 6 * (tt + 1)) (by omega) (by omega) ?_
            exact hk9 s k pp n tx ns lk ld os olk old nx sz rs rl rd zz rc en sn nd ln tl ce la cd ke ty 0 ap ft bo ot il f0 f1 f2 f3 f4 qu fr by9 fa fs (vp_updL og 0 (Int32.toInt64 (nI (s (1 + j))))) ⟨hC, hSv, htl, hn, hcd, hf, hp, hke, hty, ht, hil⟩
          · exact absurd ((lg_cmp0 _ _).mpr rfl) c_870
      · exact absurd rfl c_853
  · simp only [put_cons, put_nil, List.set_cons_zero, List.set_cons_succ, List.append_nil]
    refine st_istore C.cx (dk DL_law_11 20 rfl) (by decide) rfl ?_
    refine st_aload_n C.cx (dk DL_law_11 21 rfl) rfl ?_
    refine st_aload_n C.cx (dk DL_law_11 22 rfl) rfl ?_
    refine st_iload C.cx (dk DL_law_11 23 rfl) rfl ?_
    refine st_iconst C.cx (v := 1) (dk DL_law_11 24 rfl) (by decide) ?_
    refine st_iadd C.cx (dk DL_law_11 25 rfl) ?_
    refine st_sld C (dk DL_law_11 26 rfl) h1 e1 ?_
    refine st_cV C.cx (k_X6_walker l G hf) mf_X6_walker mi_X6_walker ml_RL_126 (dk DL_law_11 27 rfl) [34, 35] rfl rfl rfl rfl (Nat.le_of_ble_eq_true rfl) rfl rfl ⟨Nat.le_of_ble_eq_true rfl, Nat.le_of_ble_eq_true rfl⟩ hr1 (fun r8 w8 hq8 => ?_)
    rcases hq8 with ⟨g_1, rfl, rfl⟩ | ⟨jr, g_1, g_2, rfl, rfl⟩
    · simp only [put_cons, put_nil, List.set_cons_zero, List.set_cons_succ, List.append_nil]
      refine st_istore C.cx (dk DL_law_11 28 rfl) (by decide) rfl ?_
      refine st_aload_n C.cx (dk DL_law_11 29 rfl) rfl ?_
      refine st_cV C.cx (k_X6_thrown l G) mf_X6_thrown mi_X6_thrown ml_RL_80 (dk DL_law_11 30 rfl) [34] rfl rfl rfl rfl (Nat.le_of_ble_eq_true rfl) rfl rfl ⟨Nat.le_of_ble_eq_true rfl, Nat.le_of_ble_eq_true rfl⟩ hr1 (fun r9 w9 hq9 => ?_)
      obtain ⟨rfl, rfl⟩ := hq9
      show P _ _ _ _ _ [_, _, _, _, _, _, _, _, _, _, _, _, _, _, _, _, _, _, _, _, _, _, _, _, _, _, _, _, _, _, _, _, _, _, _, _, _, _, _, _, _, _, _, _, _, _]
      refine st_iload C.cx (dk DL_law_11 31 rfl) rfl ?_
      refine st_icmp_eq C.cx (tgt := 858) (dk DL_law_11 32 rfl) (by decide) (fun c_853 => ?_) (fun c_853 => ?_)
      · refine st_iload C.cx (dk DL_law_11 35 rfl) rfl ?_
        refine st_if_ne C.cx (tgt := 875) (dk DL_law_11 36 rfl) (by decide) (fun c_860 => ?_) (fun c_860 => ?_)
        · refine st_goto C.cx (tgt := 1250) (dk DL_law_12 6 rfl) (by decide) ?_
          refine st_lv C.cx [0, 1, 2, 3, 4] rfl ?_
          refine st_wide C.cx (k' := 46 + (tt + 1)) (n' := 24379 + 6 * (tt + 1)) (by omega) (by omega) ?_
          exact hk9 s k pp n tx ns lk ld os olk old nx sz rs rl rd zz rc en sn nd ln tl ce la cd ke ty 1 ap ft bo ot il f0 f1 f2 f3 f4 qu fr by9 fa fs og ⟨hC, hSv, htl, hn, hcd, hf, hp, hke, hty, ht, hil⟩
        · exact absurd c_860 (by decide)
      · exact absurd rfl c_853
    · have qg_j : isN a1 4 := ⟨jr, g_1, g_2⟩
      exfalso
      first | contradiction | omega
set_option maxHeartbeats 8000000 in
set_option maxRecDepth 100000 in
theorem lc_plan {l : Launch} {G : wG} (hlt : l.stackTraces = false) {L : Nat} {xs : Nat → Int32} {P : PT} {nm9 : String} {b K p q1 q2 o o1 o2 v v1 : Nat} {u u1 u2 : Nat → Nat} {t t1 t2 t3 t4 y y1 M : Nat} {A : Nat → Nat} {e : Nat} (C : Cv l G RL cL_law 9 nm9 room_1 (exL b L xs) P) {s : mS} {k : Nat} {pp : Nat → mS} {n : Nat} {tx : Nat → Nat} {ns : Nat → Int32} {lk : Nat → Int32} {ld : Nat → Int32} {os : Nat → Int32} {olk : Nat → Int32} {old : Nat → Int32} {nx : Int32} {sz : Int32} {rs : Nat → Nat → Int32} {rl : Nat → Nat → Int32} {rd : Nat → Nat → Int32} {zz : Int32} {rc : Int32} {en : Nat → Int32} {sn : Nat → Int64} {nd : Nat → Int32} {ln : Nat → Int32} {tl : Int32} {ce : Int32} {la : Int32} {cd : Nat → Int32} {ke : Int32} {ty : Int32} {th : Int32} {ap : Int32} {ft : Int32} {bo : Int32} {ot : Int32} {il : Int32} {f0 : Nat → Int32} {f1 : Nat → Int32} {f2 : Nat → Int32} {f3 : Nat → Int32} {f4 : Nat → Int32} {qu : Nat → Int32} {fr : Nat → Int32} {by9 : Nat → Int32} {fa : Nat → Int32} {fs : Nat → Int32} {og : Nat → Int64} (hI : INV s k pp n tx ns lk ld nx sz rs rl rd tl cd ke ty il f0 f2 f3 qu fr by9 fa fs) {x a1 a2 : Int32} {tt : Nat} (htt : tt < 512) (h1 : vp_in (x + 1) L) (h2 : vp_in (x + 2) L) (e1 : xs (x + 1).toNatClampNeg = a1) (e2 : xs (x + 2).toNatClampNeg = a2) (hk9 : LH P G b K p q1 q2 o o1 o2 v v1 u u1 u2 t t1 t2 t3 t4 y y1 M A e (46 + (tt + 1)) (24379 + 6 * (tt + 1)) x) : P (46 + tt) (24379 + 6 * tt) 878 [(0, .ref b), (1, .ref K), (2, .ref M), (3, .ref e), (4, .int x)] [] [(K, ob 4 (kF p o v t y)), (p, ob 0 (cR q1 q2 ns)), (q1, aI G 15 lk), (q2, aI G 16 ld), (o, ob 0 (cR o1 o2 os)), (o1, aI G 15 olk), (o2, aI G 16 old), (v, ob 1 (vF v1 nx sz)), (v1, aQ G 6 (fun k => some (u k))), (u 0, ob 0 (cR (u1 0) (u2 0) (rs 0))), (u1 0, aI G 15 (rl 0)), (u2 0, aI G 16 (rd 0)), (u 1, ob 0 (cR (u1 1) (u2 1) (rs 1))), (u1 1, aI G 15 (rl 1)), (u2 1, aI G 16 (rd 1)), (u 2, ob 0 (cR (u1 2) (u2 2) (rs 2))), (u1 2, aI G 15 (rl 2)), (u2 2, aI G 16 (rd 2)), (u 3, ob 0 (cR (u1 3) (u2 3) (rs 3))), (u1 3, aI G 15 (rl 3)), (u2 3, aI G 16 (rd 3)), (u 4, ob 0 (cR (u1 4) (u2 4) (rs 4))), (u1 4, aI G 15 (rl 4)), (u2 4, aI G 16 (rd 4)), (u 5, ob 0 (cR (u1 5) (u2 5) (rs 5))), (u1 5, aI G 15 (rl 5)), (u2 5, aI G 16 (rd 5)), (t, ob 2 (sF t1 t2 t3 t4 zz rc)), (t1, aI G 4624 en), (t2, aJ G 256 sn), (t3, aI G 16 nd), (t4, aI G 16 ln), (y, ob 3 (tF y1 tl ce la)), (y1, aI G 60 cd), (M, ob 5 (mF A ke ty th ap ft bo ot il)), (A 0, aI G 53 f0), (A 1, aI G 53 f1), (A 2, aI G 318 f2), (A 3, aI G 60 f3), (A 4, aI G 48 f4), (A 5, aI G 4624 qu), (A 6, aI G 4624 fr), (A 7, aI G 4624 by9), (A 8, aI G 4624 fa), (A 9, aI G 16 fs), (e, aJ G 1 og)] := by
  obtain ⟨hC, hSv, htl, hn, hcd, hf, hp, hke, hty, ht, hil⟩ := hI
  have hok := hC.1
  have hk : k ≤ 6 := by obtain ⟨j9, -, -, -, h9, -⟩ := hSv; exact h9
  have hsz : sz = nI k := by obtain ⟨j9, -, -, h9, -⟩ := hSv; exact h9
  have hr0 : 46 + tt ≤ room_1.cells ∧ 24379 + 6 * tt ≤ room_1.slots := ⟨by show _ ≤ 601024; omega, by show _ ≤ 7293034; omega⟩
  have hr1 : 46 + tt + 1 ≤ room_1.cells ∧ 24379 + 6 * tt + 6 ≤ room_1.slots := ⟨by show _ ≤ 601024; omega, by show _ ≤ 7293034; omega⟩
  refine st_aload_n C.cx (dk DL_law_12 7 rfl) rfl ?_
  refine st_aload_n C.cx (dk DL_law_12 8 rfl) rfl ?_
  refine st_iload C.cx (dk DL_law_12 9 rfl) rfl ?_
  refine st_iconst C.cx (v := 1) (dk DL_law_12 10 rfl) (by decide) ?_
  refine st_iadd C.cx (dk DL_law_12 11 rfl) ?_
  refine st_sld C (dk DL_law_12 12 rfl) h1 e1 ?_
  refine st_aload_n C.cx (dk DL_law_12 13 rfl) rfl ?_
  refine st_iload C.cx (dk DL_law_12 14 rfl) rfl ?_
  refine st_iconst C.cx (v := 2) (dk DL_law_12 15 rfl) (by decide) ?_
  refine st_iadd C.cx (dk DL_law_12 16 rfl) ?_
  refine st_sld C (dk DL_law_12 17 rfl) h2 e2 ?_
  refine st_aload_n C.cx (dk DL_law_12 18 rfl) rfl ?_
  refine st_callH (fun _ _ _ _ h => h.1) C (kw_plan l G hlt hC) mw_L_plan ms_L_plan mq_RL_127 (dk DL_law_12 19 rfl) [0, 1, 2, 3, 27, 28, 29, 30, 31, 45] rfl rfl rfl rfl (Nat.le_of_ble_eq_true rfl) ⟨Nat.le_of_ble_eq_true rfl, Nat.le_of_ble_eq_true rfl⟩ hr1 (fun r9 w9 v9 hq9 => ?_)
  obtain ⟨rfl, hu⟩ := hq9
  rcases hu with ⟨j, i, h_1, h_2, h_3, h_4, rfl, zz9, rc9, en9, sn9, nd9, ln9, rfl⟩ | ⟨rfl, h_1, rfl⟩ | ⟨rfl, h_1, h_2, rfl⟩
  · simp only [put_cons, put_nil, List.set_cons_zero, List.set_cons_succ, List.append_nil]
    have qh_j : isN a1 15 := ⟨j, h_1, h_3⟩
    have qh_i : ¬ a2 < 0 := by rw [h_4]; exact nI_pos h_2
    refine st_istore C.cx (dk DL_law_12 20 rfl) (by decide) rfl ?_
    refine st_aload_n C.cx (dk DL_law_12 21 rfl) rfl ?_
    refine st_aload_n C.cx (dk DL_law_12 22 rfl) rfl ?_
    refine st_iload C.cx (dk DL_law_12 23 rfl) rfl ?_
    refine st_iconst C.cx (v := 1) (dk DL_law_12 24 rfl) (by decide) ?_
    refine st_iadd C.cx (dk DL_law_12 25 rfl) ?_
    refine st_sld C (dk DL_law_12 26 rfl) h1 e1 ?_
    refine st_aload_n C.cx (dk DL_law_12 27 rfl) rfl ?_
    refine st_iload C.cx (dk DL_law_12 28 rfl) rfl ?_
    refine st_iconst C.cx (v := 2) (dk DL_law_12 29 rfl) (by decide) ?_
    refine st_iadd C.cx (dk DL_law_12 30 rfl) ?_
    refine st_sld C (dk DL_law_12 31 rfl) h2 e2 ?_
    refine st_cV C.cx (k_X6_plan l G hf hok hil) mf_X6_plan mi_X6_plan ml_RL_129 (dk DL_law_12 32 rfl) [34, 35, 40, 41, 42, 43, 44] rfl rfl rfl rfl (Nat.le_of_ble_eq_true rfl) rfl rfl ⟨Nat.le_of_ble_eq_true rfl, Nat.le_of_ble_eq_true rfl⟩ hr1 (fun r8 w8 hq8 => ?_)
    rcases hq8 with ⟨g_1, rfl, rfl⟩ | ⟨g_1, g_2, rfl, rfl⟩ | ⟨jr, ir, g_1, g_2, g_3, g_4, rfl, bo9r, ot9r, qu9r, fr9r, by99r, fa9r, fs9r, g_5, rfl⟩
    · exfalso
      first | contradiction | omega
    · exfalso
      first | contradiction | omega
    · have qg_j : isN a1 15 := ⟨jr, g_1, g_3⟩
      have qg_i : ¬ a2 < 0 := by rw [g_4]; exact nI_pos g_2
      obtain rfl := (u_nI h_3 g_3 (by omega) (by omega)).symm
      obtain rfl := (u_nI h_4 g_4 (by omega) (by omega)).symm
      simp only [put_cons, put_nil, List.set_cons_zero, List.set_cons_succ, List.append_nil]
      refine st_istore C.cx (dk DL_law_12 33 rfl) (by decide) rfl ?_
      refine st_aload_n C.cx (dk DL_law_12 34 rfl) rfl ?_
      refine st_cV C.cx (k_X6_thrown l G) mf_X6_thrown mi_X6_thrown ml_RL_80 (dk DL_law_12 35 rfl) [34] rfl rfl rfl rfl (Nat.le_of_ble_eq_true rfl) rfl rfl ⟨Nat.le_of_ble_eq_true rfl, Nat.le_of_ble_eq_true rfl⟩ hr1 (fun r9 w9 hq9 => ?_)
      obtain ⟨rfl, rfl⟩ := hq9
      show P _ _ _ _ _ [_, _, _, _, _, _, _, _, _, _, _, _, _, _, _, _, _, _, _, _, _, _, _, _, _, _, _, _, _, _, _, _, _, _, _, _, _, _, _, _, _, _, _, _, _, _]
      refine st_iload C.cx (dk DL_law_12 36 rfl) rfl ?_
      refine st_icmp_eq C.cx (tgt := 926) (dk DL_law_12 37 rfl) (by decide) (fun c_921 => ?_) (fun c_921 => ?_)
      · refine st_iload C.cx (dk DL_law_13 0 rfl) rfl ?_
        refine st_if_ne C.cx (tgt := 943) (dk DL_law_13 1 rfl) (by decide) (fun c_928 => ?_) (fun c_928 => ?_)
        · exact absurd rfl c_928
        · refine st_aload_n C.cx (dk DL_law_13 2 rfl) rfl ?_
          refine st_iconst C.cx (v := 0) (dk DL_law_13 3 rfl) (by decide) ?_
          refine st_lald C.cx (dk DL_law_13 4 rfl) 45 rfl (by unfold vp_in; decide) ?_
          refine st_iload C.cx (dk DL_law_13 5 rfl) rfl ?_
          refine st_i2l C.cx (dk DL_law_13 6 rfl) ?_
          refine st_lcmp C.cx (dk DL_law_13 7 rfl) ?_
          refine st_if_eq C.cx (tgt := 943) (dk DL_law_13 8 rfl) (by decide) (fun c_938 => ?_) (fun c_938 => ?_)
          · refine st_goto C.cx (tgt := 1250) (dk DL_law_13 11 rfl) (by decide) ?_
            refine st_lv C.cx [0, 1, 2, 3, 4] rfl ?_
            refine st_wide C.cx (k' := 46 + (tt + 1)) (n' := 24379 + 6 * (tt + 1)) (by omega) (by omega) ?_
            exact hk9 s k pp n tx ns lk ld os olk old nx sz rs rl rd zz9 rc9 en9 sn9 nd9 ln9 tl ce la cd ke ty 0 ap ft bo9r ot9r 1 f0 f1 f2 f3 f4 qu9r fr9r by99r fa9r fs9r (vp_updL og 0 (Int32.toInt64 (plI (fS s) j i))) ⟨hC, hSv, htl, hn, hcd, hf, hp, hke, hty, ht, Or.inr ⟨rfl, g_5⟩⟩
          · exact absurd ((lg_cmp0 _ _).mpr rfl) c_938
      · exact absurd rfl c_921
  · simp only [put_cons, put_nil, List.set_cons_zero, List.set_cons_succ, List.append_nil]
    refine st_istore C.cx (dk DL_law_12 20 rfl) (by decide) rfl ?_
    refine st_aload_n C.cx (dk DL_law_12 21 rfl) rfl ?_
    refine st_aload_n C.cx (dk DL_law_12 22 rfl) rfl ?_
    refine st_iload C.cx (dk DL_law_12 23 rfl) rfl ?_
    refine st_iconst C.cx (v := 1) (dk DL_law_12 24 rfl) (by decide) ?_
    refine st_iadd C.cx (dk DL_law_12 25 rfl) ?_
    refine st_sld C (dk DL_law_12 26 rfl) h1 e1 ?_
    refine st_aload_n C.cx (dk DL_law_12 27 rfl) rfl ?_
    refine st_iload C.cx (dk DL_law_12 28 rfl) rfl ?_
    refine st_iconst C.cx (v := 2) (dk DL_law_12 29 rfl) (by decide) ?_
    refine st_iadd C.cx (dk DL_law_12 30 rfl) ?_
    refine st_sld C (dk DL_law_12 31 rfl) h2 e2 ?_
    refine st_cV C.cx (k_X6_plan l G hf hok hil) mf_X6_plan mi_X6_plan ml_RL_129 (dk DL_law_12 32 rfl) [34, 35, 40, 41, 42, 43, 44] rfl rfl rfl rfl (Nat.le_of_ble_eq_true rfl) rfl rfl ⟨Nat.le_of_ble_eq_true rfl, Nat.le_of_ble_eq_true rfl⟩ hr1 (fun r8 w8 hq8 => ?_)
    rcases hq8 with ⟨g_1, rfl, rfl⟩ | ⟨g_1, g_2, rfl, rfl⟩ | ⟨jr, ir, g_1, g_2, g_3, g_4, rfl, bo9r, ot9r, qu9r, fr9r, by99r, fa9r, fs9r, g_5, rfl⟩
    · simp only [put_cons, put_nil, List.set_cons_zero, List.set_cons_succ, List.append_nil]
      refine st_istore C.cx (dk DL_law_12 33 rfl) (by decide) rfl ?_
      refine st_aload_n C.cx (dk DL_law_12 34 rfl) rfl ?_
      refine st_cV C.cx (k_X6_thrown l G) mf_X6_thrown mi_X6_thrown ml_RL_80 (dk DL_law_12 35 rfl) [34] rfl rfl rfl rfl (Nat.le_of_ble_eq_true rfl) rfl rfl ⟨Nat.le_of_ble_eq_true rfl, Nat.le_of_ble_eq_true rfl⟩ hr1 (fun r9 w9 hq9 => ?_)
      obtain ⟨rfl, rfl⟩ := hq9
      show P _ _ _ _ _ [_, _, _, _, _, _, _, _, _, _, _, _, _, _, _, _, _, _, _, _, _, _, _, _, _, _, _, _, _, _, _, _, _, _, _, _, _, _, _, _, _, _, _, _, _, _]
      refine st_iload C.cx (dk DL_law_12 36 rfl) rfl ?_
      refine st_icmp_eq C.cx (tgt := 926) (dk DL_law_12 37 rfl) (by decide) (fun c_921 => ?_) (fun c_921 => ?_)
      · refine st_iload C.cx (dk DL_law_13 0 rfl) rfl ?_
        refine st_if_ne C.cx (tgt := 943) (dk DL_law_13 1 rfl) (by decide) (fun c_928 => ?_) (fun c_928 => ?_)
        · refine st_goto C.cx (tgt := 1250) (dk DL_law_13 11 rfl) (by decide) ?_
          refine st_lv C.cx [0, 1, 2, 3, 4] rfl ?_
          refine st_wide C.cx (k' := 46 + (tt + 1)) (n' := 24379 + 6 * (tt + 1)) (by omega) (by omega) ?_
          exact hk9 s k pp n tx ns lk ld os olk old nx sz rs rl rd zz rc en sn nd ln tl ce la cd ke ty 1 ap ft bo ot il f0 f1 f2 f3 f4 qu fr by9 fa fs og ⟨hC, hSv, htl, hn, hcd, hf, hp, hke, hty, ht, hil⟩
        · exact absurd c_928 (by decide)
      · exact absurd rfl c_921
    · exfalso
      first | contradiction | omega
    · have qg_j : isN a1 15 := ⟨jr, g_1, g_3⟩
      have qg_i : ¬ a2 < 0 := by rw [g_4]; exact nI_pos g_2
      exfalso
      first | contradiction | omega
  · simp only [put_cons, put_nil, List.set_cons_zero, List.set_cons_succ, List.append_nil]
    refine st_istore C.cx (dk DL_law_12 20 rfl) (by decide) rfl ?_
    refine st_aload_n C.cx (dk DL_law_12 21 rfl) rfl ?_
    refine st_aload_n C.cx (dk DL_law_12 22 rfl) rfl ?_
    refine st_iload C.cx (dk DL_law_12 23 rfl) rfl ?_
    refine st_iconst C.cx (v := 1) (dk DL_law_12 24 rfl) (by decide) ?_
    refine st_iadd C.cx (dk DL_law_12 25 rfl) ?_
    refine st_sld C (dk DL_law_12 26 rfl) h1 e1 ?_
    refine st_aload_n C.cx (dk DL_law_12 27 rfl) rfl ?_
    refine st_iload C.cx (dk DL_law_12 28 rfl) rfl ?_
    refine st_iconst C.cx (v := 2) (dk DL_law_12 29 rfl) (by decide) ?_
    refine st_iadd C.cx (dk DL_law_12 30 rfl) ?_
    refine st_sld C (dk DL_law_12 31 rfl) h2 e2 ?_
    refine st_cV C.cx (k_X6_plan l G hf hok hil) mf_X6_plan mi_X6_plan ml_RL_129 (dk DL_law_12 32 rfl) [34, 35, 40, 41, 42, 43, 44] rfl rfl rfl rfl (Nat.le_of_ble_eq_true rfl) rfl rfl ⟨Nat.le_of_ble_eq_true rfl, Nat.le_of_ble_eq_true rfl⟩ hr1 (fun r8 w8 hq8 => ?_)
    rcases hq8 with ⟨g_1, rfl, rfl⟩ | ⟨g_1, g_2, rfl, rfl⟩ | ⟨jr, ir, g_1, g_2, g_3, g_4, rfl, bo9r, ot9r, qu9r, fr9r, by99r, fa9r, fs9r, g_5, rfl⟩
    · exfalso
      first | contradiction | omega
    · simp only [put_cons, put_nil, List.set_cons_zero, List.set_cons_succ, List.append_nil]
      refine st_istore C.cx (dk DL_law_12 33 rfl) (by decide) rfl ?_
      refine st_aload_n C.cx (dk DL_law_12 34 rfl) rfl ?_
      refine st_cV C.cx (k_X6_thrown l G) mf_X6_thrown mi_X6_thrown ml_RL_80 (dk DL_law_12 35 rfl) [34] rfl rfl rfl rfl (Nat.le_of_ble_eq_true rfl) rfl rfl ⟨Nat.le_of_ble_eq_true rfl, Nat.le_of_ble_eq_true rfl⟩ hr1 (fun r9 w9 hq9 => ?_)
      obtain ⟨rfl, rfl⟩ := hq9
      show P _ _ _ _ _ [_, _, _, _, _, _, _, _, _, _, _, _, _, _, _, _, _, _, _, _, _, _, _, _, _, _, _, _, _, _, _, _, _, _, _, _, _, _, _, _, _, _, _, _, _, _]
      refine st_iload C.cx (dk DL_law_12 36 rfl) rfl ?_
      refine st_icmp_eq C.cx (tgt := 926) (dk DL_law_12 37 rfl) (by decide) (fun c_921 => ?_) (fun c_921 => ?_)
      · refine st_iload C.cx (dk DL_law_13 0 rfl) rfl ?_
        refine st_if_ne C.cx (tgt := 943) (dk DL_law_13 1 rfl) (by decide) (fun c_928 => ?_) (fun c_928 => ?_)
        · refine st_goto C.cx (tgt := 1250) (dk DL_law_13 11 rfl) (by decide) ?_
          refine st_lv C.cx [0, 1, 2, 3, 4] rfl ?_
          refine st_wide C.cx (k' := 46 + (tt + 1)) (n' := 24379 + 6 * (tt + 1)) (by omega) (by omega) ?_
          exact hk9 s k pp n tx ns lk ld os olk old nx sz rs rl rd zz rc en sn nd ln tl ce la cd ke ty 2 ap ft bo ot il f0 f1 f2 f3 f4 qu fr by9 fa fs og ⟨hC, hSv, htl, hn, hcd, hf, hp, hke, hty, ht, hil⟩
        · exact absurd c_928 (by decide)
      · exact absurd rfl c_921
    · have qg_j : isN a1 15 := ⟨jr, g_1, g_3⟩
      have qg_i : ¬ a2 < 0 := by rw [g_4]; exact nI_pos g_2
      exfalso
      first | contradiction | omega
set_option maxHeartbeats 8000000 in
set_option maxRecDepth 100000 in
theorem lc_count {l : Launch} {G : wG} (hlt : l.stackTraces = false) {L : Nat} {xs : Nat → Int32} {P : PT} {nm9 : String} {b K p q1 q2 o o1 o2 v v1 : Nat} {u u1 u2 : Nat → Nat} {t t1 t2 t3 t4 y y1 M : Nat} {A : Nat → Nat} {e : Nat} (C : Cv l G RL cL_law 9 nm9 room_1 (exL b L xs) P) {s : mS} {k : Nat} {pp : Nat → mS} {n : Nat} {tx : Nat → Nat} {ns : Nat → Int32} {lk : Nat → Int32} {ld : Nat → Int32} {os : Nat → Int32} {olk : Nat → Int32} {old : Nat → Int32} {nx : Int32} {sz : Int32} {rs : Nat → Nat → Int32} {rl : Nat → Nat → Int32} {rd : Nat → Nat → Int32} {zz : Int32} {rc : Int32} {en : Nat → Int32} {sn : Nat → Int64} {nd : Nat → Int32} {ln : Nat → Int32} {tl : Int32} {ce : Int32} {la : Int32} {cd : Nat → Int32} {ke : Int32} {ty : Int32} {th : Int32} {ap : Int32} {ft : Int32} {bo : Int32} {ot : Int32} {il : Int32} {f0 : Nat → Int32} {f1 : Nat → Int32} {f2 : Nat → Int32} {f3 : Nat → Int32} {f4 : Nat → Int32} {qu : Nat → Int32} {fr : Nat → Int32} {by9 : Nat → Int32} {fa : Nat → Int32} {fs : Nat → Int32} {og : Nat → Int64} (hI : INV s k pp n tx ns lk ld nx sz rs rl rd tl cd ke ty il f0 f2 f3 qu fr by9 fa fs) {x a1 a2 : Int32} {tt : Nat} (htt : tt < 512) (h1 : vp_in (x + 1) L) (h2 : vp_in (x + 2) L) (e1 : xs (x + 1).toNatClampNeg = a1) (e2 : xs (x + 2).toNatClampNeg = a2) (hk9 : LH P G b K p q1 q2 o o1 o2 v v1 u u1 u2 t t1 t2 t3 t4 y y1 M A e (46 + (tt + 1)) (24379 + 6 * (tt + 1)) x) : P (46 + tt) (24379 + 6 * tt) 946 [(0, .ref b), (1, .ref K), (2, .ref M), (3, .ref e), (4, .int x)] [] [(K, ob 4 (kF p o v t y)), (p, ob 0 (cR q1 q2 ns)), (q1, aI G 15 lk), (q2, aI G 16 ld), (o, ob 0 (cR o1 o2 os)), (o1, aI G 15 olk), (o2, aI G 16 old), (v, ob 1 (vF v1 nx sz)), (v1, aQ G 6 (fun k => some (u k))), (u 0, ob 0 (cR (u1 0) (u2 0) (rs 0))), (u1 0, aI G 15 (rl 0)), (u2 0, aI G 16 (rd 0)), (u 1, ob 0 (cR (u1 1) (u2 1) (rs 1))), (u1 1, aI G 15 (rl 1)), (u2 1, aI G 16 (rd 1)), (u 2, ob 0 (cR (u1 2) (u2 2) (rs 2))), (u1 2, aI G 15 (rl 2)), (u2 2, aI G 16 (rd 2)), (u 3, ob 0 (cR (u1 3) (u2 3) (rs 3))), (u1 3, aI G 15 (rl 3)), (u2 3, aI G 16 (rd 3)), (u 4, ob 0 (cR (u1 4) (u2 4) (rs 4))), (u1 4, aI G 15 (rl 4)), (u2 4, aI G 16 (rd 4)), (u 5, ob 0 (cR (u1 5) (u2 5) (rs 5))), (u1 5, aI G 15 (rl 5)), (u2 5, aI G 16 (rd 5)), (t, ob 2 (sF t1 t2 t3 t4 zz rc)), (t1, aI G 4624 en), (t2, aJ G 256 sn), (t3, aI G 16 nd), (t4, aI G 16 ln), (y, ob 3 (tF y1 tl ce la)), (y1, aI G 60 cd), (M, ob 5 (mF A ke ty th ap ft bo ot il)), (A 0, aI G 53 f0), (A 1, aI G 53 f1), (A 2, aI G 318 f2), (A 3, aI G 60 f3), (A 4, aI G 48 f4), (A 5, aI G 4624 qu), (A 6, aI G 4624 fr), (A 7, aI G 4624 by9), (A 8, aI G 4624 fa), (A 9, aI G 16 fs), (e, aJ G 1 og)] := by
  obtain ⟨hC, hSv, htl, hn, hcd, hf, hp, hke, hty, ht, hil⟩ := hI
  have hok := hC.1
  have hk : k ≤ 6 := by obtain ⟨j9, -, -, -, h9, -⟩ := hSv; exact h9
  have hsz : sz = nI k := by obtain ⟨j9, -, -, h9, -⟩ := hSv; exact h9
  have hr0 : 46 + tt ≤ room_1.cells ∧ 24379 + 6 * tt ≤ room_1.slots := ⟨by show _ ≤ 601024; omega, by show _ ≤ 7293034; omega⟩
  have hr1 : 46 + tt + 1 ≤ room_1.cells ∧ 24379 + 6 * tt + 6 ≤ room_1.slots := ⟨by show _ ≤ 601024; omega, by show _ ≤ 7293034; omega⟩
  refine st_aload_n C.cx (dk DL_law_13 12 rfl) rfl ?_
  refine st_aload_n C.cx (dk DL_law_13 13 rfl) rfl ?_
  refine st_iload C.cx (dk DL_law_13 14 rfl) rfl ?_
  refine st_iconst C.cx (v := 1) (dk DL_law_13 15 rfl) (by decide) ?_
  refine st_iadd C.cx (dk DL_law_13 16 rfl) ?_
  refine st_sld C (dk DL_law_13 17 rfl) h1 e1 ?_
  refine st_aload_n C.cx (dk DL_law_13 18 rfl) rfl ?_
  refine st_callH (fun _ _ _ _ h => h.1) C (kw_count l G hlt hC hsz) mw_L_count ms_L_count mq_RL_130 (dk DL_law_13 19 rfl) [0, 1, 2, 3, 7, 27, 28, 29, 30, 31, 45] rfl rfl rfl rfl (Nat.le_of_ble_eq_true rfl) ⟨Nat.le_of_ble_eq_true rfl, Nat.le_of_ble_eq_true rfl⟩ hr1 (fun r9 w9 v9 hq9 => ?_)
  obtain ⟨rfl, hu⟩ := hq9
  rcases hu with ⟨i, h_1, h_2, rfl, zz9, rc9, en9, sn9, nd9, ln9, rfl⟩ | ⟨rfl, h_1, rfl⟩
  · simp only [put_cons, put_nil, List.set_cons_zero, List.set_cons_succ, List.append_nil]
    have qh_i : isN a1 6 := ⟨i, h_1, h_2⟩
    refine st_istore C.cx (dk DL_law_13 20 rfl) (by decide) rfl ?_
    refine st_aload_n C.cx (dk DL_law_13 21 rfl) rfl ?_
    refine st_aload_n C.cx (dk DL_law_13 22 rfl) rfl ?_
    refine st_iload C.cx (dk DL_law_13 23 rfl) rfl ?_
    refine st_iconst C.cx (v := 1) (dk DL_law_13 24 rfl) (by decide) ?_
    refine st_iadd C.cx (dk DL_law_13 25 rfl) ?_
    refine st_sld C (dk DL_law_13 26 rfl) h1 e1 ?_
    refine st_cV C.cx (k_X6_count l G hf hok hil hke) mf_X6_count mi_X6_count ml_RL_132 (dk DL_law_13 27 rfl) [34, 35, 40, 41, 42, 43, 44] rfl rfl rfl rfl (Nat.le_of_ble_eq_true rfl) rfl rfl ⟨Nat.le_of_ble_eq_true rfl, Nat.le_of_ble_eq_true rfl⟩ hr1 (fun r8 w8 hq8 => ?_)
    rcases hq8 with ⟨g_1, rfl, rfl⟩ | ⟨ir, g_1, g_2, rfl, bo9r, ot9r, qu9r, fr9r, by99r, fa9r, fs9r, g_3, rfl⟩
    · exfalso
      first | contradiction | omega
    · have qg_i : isN a1 6 := ⟨ir, g_1, g_2⟩
      obtain rfl := (u_nI h_2 g_2 (by omega) (by omega)).symm
      simp only [put_cons, put_nil, List.set_cons_zero, List.set_cons_succ, List.append_nil]
      refine st_istore C.cx (dk DL_law_13 28 rfl) (by decide) rfl ?_
      refine st_aload_n C.cx (dk DL_law_13 29 rfl) rfl ?_
      refine st_cV C.cx (k_X6_thrown l G) mf_X6_thrown mi_X6_thrown ml_RL_80 (dk DL_law_13 30 rfl) [34] rfl rfl rfl rfl (Nat.le_of_ble_eq_true rfl) rfl rfl ⟨Nat.le_of_ble_eq_true rfl, Nat.le_of_ble_eq_true rfl⟩ hr1 (fun r9 w9 hq9 => ?_)
      obtain ⟨rfl, rfl⟩ := hq9
      show P _ _ _ _ _ [_, _, _, _, _, _, _, _, _, _, _, _, _, _, _, _, _, _, _, _, _, _, _, _, _, _, _, _, _, _, _, _, _, _, _, _, _, _, _, _, _, _, _, _, _, _]
      refine st_iload C.cx (dk DL_law_13 31 rfl) rfl ?_
      refine st_icmp_eq C.cx (tgt := 982) (dk DL_law_13 32 rfl) (by decide) (fun c_977 => ?_) (fun c_977 => ?_)
      · refine st_iload C.cx (dk DL_law_13 35 rfl) rfl ?_
        refine st_if_ne C.cx (tgt := 999) (dk DL_law_13 36 rfl) (by decide) (fun c_984 => ?_) (fun c_984 => ?_)
        · exact absurd rfl c_984
        · refine st_aload_n C.cx (dk DL_law_13 37 rfl) rfl ?_
          refine st_iconst C.cx (v := 0) (dk DL_law_13 38 rfl) (by decide) ?_
          refine st_lald C.cx (dk DL_law_13 39 rfl) 45 rfl (by unfold vp_in; decide) ?_
          refine st_iload C.cx (dk DL_law_14 0 rfl) rfl ?_
          refine st_i2l C.cx (dk DL_law_14 1 rfl) ?_
          refine st_lcmp C.cx (dk DL_law_14 2 rfl) ?_
          refine st_if_eq C.cx (tgt := 999) (dk DL_law_14 3 rfl) (by decide) (fun c_994 => ?_) (fun c_994 => ?_)
          · refine st_goto C.cx (tgt := 1250) (dk DL_law_14 6 rfl) (by decide) ?_
            refine st_lv C.cx [0, 1, 2, 3, 4] rfl ?_
            refine st_wide C.cx (k' := 46 + (tt + 1)) (n' := 24379 + 6 * (tt + 1)) (by omega) (by omega) ?_
            exact hk9 s k pp n tx ns lk ld os olk old nx sz rs rl rd zz9 rc9 en9 sn9 nd9 ln9 tl ce la cd ke ty 0 ap ft bo9r ot9r 1 f0 f1 f2 f3 f4 qu9r fr9r by99r fa9r fs9r (vp_updL og 0 (Int32.toInt64 (coI s k i))) ⟨hC, hSv, htl, hn, hcd, hf, hp, hke, hty, ht, Or.inr ⟨rfl, g_3⟩⟩
          · exact absurd ((lg_cmp0 _ _).mpr rfl) c_994
      · exact absurd rfl c_977
  · simp only [put_cons, put_nil, List.set_cons_zero, List.set_cons_succ, List.append_nil]
    refine st_istore C.cx (dk DL_law_13 20 rfl) (by decide) rfl ?_
    refine st_aload_n C.cx (dk DL_law_13 21 rfl) rfl ?_
    refine st_aload_n C.cx (dk DL_law_13 22 rfl) rfl ?_
    refine st_iload C.cx (dk DL_law_13 23 rfl) rfl ?_
    refine st_iconst C.cx (v := 1) (dk DL_law_13 24 rfl) (by decide) ?_
    refine st_iadd C.cx (dk DL_law_13 25 rfl) ?_
    refine st_sld C (dk DL_law_13 26 rfl) h1 e1 ?_
    refine st_cV C.cx (k_X6_count l G hf hok hil hke) mf_X6_count mi_X6_count ml_RL_132 (dk DL_law_13 27 rfl) [34, 35, 40, 41, 42, 43, 44] rfl rfl rfl rfl (Nat.le_of_ble_eq_true rfl) rfl rfl ⟨Nat.le_of_ble_eq_true rfl, Nat.le_of_ble_eq_true rfl⟩ hr1 (fun r8 w8 hq8 => ?_)
    rcases hq8 with ⟨g_1, rfl, rfl⟩ | ⟨ir, g_1, g_2, rfl, bo9r, ot9r, qu9r, fr9r, by99r, fa9r, fs9r, g_3, rfl⟩
    · simp only [put_cons, put_nil, List.set_cons_zero, List.set_cons_succ, List.append_nil]
      refine st_istore C.cx (dk DL_law_13 28 rfl) (by decide) rfl ?_
      refine st_aload_n C.cx (dk DL_law_13 29 rfl) rfl ?_
      refine st_cV C.cx (k_X6_thrown l G) mf_X6_thrown mi_X6_thrown ml_RL_80 (dk DL_law_13 30 rfl) [34] rfl rfl rfl rfl (Nat.le_of_ble_eq_true rfl) rfl rfl ⟨Nat.le_of_ble_eq_true rfl, Nat.le_of_ble_eq_true rfl⟩ hr1 (fun r9 w9 hq9 => ?_)
      obtain ⟨rfl, rfl⟩ := hq9
      show P _ _ _ _ _ [_, _, _, _, _, _, _, _, _, _, _, _, _, _, _, _, _, _, _, _, _, _, _, _, _, _, _, _, _, _, _, _, _, _, _, _, _, _, _, _, _, _, _, _, _, _]
      refine st_iload C.cx (dk DL_law_13 31 rfl) rfl ?_
      refine st_icmp_eq C.cx (tgt := 982) (dk DL_law_13 32 rfl) (by decide) (fun c_977 => ?_) (fun c_977 => ?_)
      · refine st_iload C.cx (dk DL_law_13 35 rfl) rfl ?_
        refine st_if_ne C.cx (tgt := 999) (dk DL_law_13 36 rfl) (by decide) (fun c_984 => ?_) (fun c_984 => ?_)
        · refine st_goto C.cx (tgt := 1250) (dk DL_law_14 6 rfl) (by decide) ?_
          refine st_lv C.cx [0, 1, 2, 3, 4] rfl ?_
          refine st_wide C.cx (k' := 46 + (tt + 1)) (n' := 24379 + 6 * (tt + 1)) (by omega) (by omega) ?_
          exact hk9 s k pp n tx ns lk ld os olk old nx sz rs rl rd zz rc en sn nd ln tl ce la cd ke ty 1 ap ft bo ot il f0 f1 f2 f3 f4 qu fr by9 fa fs og ⟨hC, hSv, htl, hn, hcd, hf, hp, hke, hty, ht, hil⟩
        · exact absurd c_984 (by decide)
      · exact absurd rfl c_977
    · have qg_i : isN a1 6 := ⟨ir, g_1, g_2⟩
      exfalso
      first | contradiction | omega
set_option maxHeartbeats 8000000 in
set_option maxRecDepth 100000 in
theorem lc_refusal {l : Launch} {G : wG} (hlt : l.stackTraces = false) {L : Nat} {xs : Nat → Int32} {P : PT} {nm9 : String} {b K p q1 q2 o o1 o2 v v1 : Nat} {u u1 u2 : Nat → Nat} {t t1 t2 t3 t4 y y1 M : Nat} {A : Nat → Nat} {e : Nat} (C : Cv l G RL cL_law 9 nm9 room_1 (exL b L xs) P) {s : mS} {k : Nat} {pp : Nat → mS} {n : Nat} {tx : Nat → Nat} {ns : Nat → Int32} {lk : Nat → Int32} {ld : Nat → Int32} {os : Nat → Int32} {olk : Nat → Int32} {old : Nat → Int32} {nx : Int32} {sz : Int32} {rs : Nat → Nat → Int32} {rl : Nat → Nat → Int32} {rd : Nat → Nat → Int32} {zz : Int32} {rc : Int32} {en : Nat → Int32} {sn : Nat → Int64} {nd : Nat → Int32} {ln : Nat → Int32} {tl : Int32} {ce : Int32} {la : Int32} {cd : Nat → Int32} {ke : Int32} {ty : Int32} {th : Int32} {ap : Int32} {ft : Int32} {bo : Int32} {ot : Int32} {il : Int32} {f0 : Nat → Int32} {f1 : Nat → Int32} {f2 : Nat → Int32} {f3 : Nat → Int32} {f4 : Nat → Int32} {qu : Nat → Int32} {fr : Nat → Int32} {by9 : Nat → Int32} {fa : Nat → Int32} {fs : Nat → Int32} {og : Nat → Int64} (hI : INV s k pp n tx ns lk ld nx sz rs rl rd tl cd ke ty il f0 f2 f3 qu fr by9 fa fs) {x a1 a2 : Int32} {tt : Nat} (htt : tt < 512) (h1 : vp_in (x + 1) L) (h2 : vp_in (x + 2) L) (e1 : xs (x + 1).toNatClampNeg = a1) (e2 : xs (x + 2).toNatClampNeg = a2) (hk9 : LH P G b K p q1 q2 o o1 o2 v v1 u u1 u2 t t1 t2 t3 t4 y y1 M A e (46 + (tt + 1)) (24379 + 6 * (tt + 1)) x) : P (46 + tt) (24379 + 6 * tt) 1002 [(0, .ref b), (1, .ref K), (2, .ref M), (3, .ref e), (4, .int x)] [] [(K, ob 4 (kF p o v t y)), (p, ob 0 (cR q1 q2 ns)), (q1, aI G 15 lk), (q2, aI G 16 ld), (o, ob 0 (cR o1 o2 os)), (o1, aI G 15 olk), (o2, aI G 16 old), (v, ob 1 (vF v1 nx sz)), (v1, aQ G 6 (fun k => some (u k))), (u 0, ob 0 (cR (u1 0) (u2 0) (rs 0))), (u1 0, aI G 15 (rl 0)), (u2 0, aI G 16 (rd 0)), (u 1, ob 0 (cR (u1 1) (u2 1) (rs 1))), (u1 1, aI G 15 (rl 1)), (u2 1, aI G 16 (rd 1)), (u 2, ob 0 (cR (u1 2) (u2 2) (rs 2))), (u1 2, aI G 15 (rl 2)), (u2 2, aI G 16 (rd 2)), (u 3, ob 0 (cR (u1 3) (u2 3) (rs 3))), (u1 3, aI G 15 (rl 3)), (u2 3, aI G 16 (rd 3)), (u 4, ob 0 (cR (u1 4) (u2 4) (rs 4))), (u1 4, aI G 15 (rl 4)), (u2 4, aI G 16 (rd 4)), (u 5, ob 0 (cR (u1 5) (u2 5) (rs 5))), (u1 5, aI G 15 (rl 5)), (u2 5, aI G 16 (rd 5)), (t, ob 2 (sF t1 t2 t3 t4 zz rc)), (t1, aI G 4624 en), (t2, aJ G 256 sn), (t3, aI G 16 nd), (t4, aI G 16 ln), (y, ob 3 (tF y1 tl ce la)), (y1, aI G 60 cd), (M, ob 5 (mF A ke ty th ap ft bo ot il)), (A 0, aI G 53 f0), (A 1, aI G 53 f1), (A 2, aI G 318 f2), (A 3, aI G 60 f3), (A 4, aI G 48 f4), (A 5, aI G 4624 qu), (A 6, aI G 4624 fr), (A 7, aI G 4624 by9), (A 8, aI G 4624 fa), (A 9, aI G 16 fs), (e, aJ G 1 og)] := by
  obtain ⟨hC, hSv, htl, hn, hcd, hf, hp, hke, hty, ht, hil⟩ := hI
  have hok := hC.1
  have hk : k ≤ 6 := by obtain ⟨j9, -, -, -, h9, -⟩ := hSv; exact h9
  have hsz : sz = nI k := by obtain ⟨j9, -, -, h9, -⟩ := hSv; exact h9
  have hr0 : 46 + tt ≤ room_1.cells ∧ 24379 + 6 * tt ≤ room_1.slots := ⟨by show _ ≤ 601024; omega, by show _ ≤ 7293034; omega⟩
  have hr1 : 46 + tt + 1 ≤ room_1.cells ∧ 24379 + 6 * tt + 6 ≤ room_1.slots := ⟨by show _ ≤ 601024; omega, by show _ ≤ 7293034; omega⟩
  refine st_aload_n C.cx (dk DL_law_14 7 rfl) rfl ?_
  refine st_aload_n C.cx (dk DL_law_14 8 rfl) rfl ?_
  refine st_iload C.cx (dk DL_law_14 9 rfl) rfl ?_
  refine st_iconst C.cx (v := 1) (dk DL_law_14 10 rfl) (by decide) ?_
  refine st_iadd C.cx (dk DL_law_14 11 rfl) ?_
  refine st_sld C (dk DL_law_14 12 rfl) h1 e1 ?_
  refine st_aload_n C.cx (dk DL_law_14 13 rfl) rfl ?_
  refine st_callH (fun _ _ _ _ h => h.1) C (kw_refusal l G hlt hC) mw_L_refusal ms_L_refusal mq_RL_133 (dk DL_law_14 14 rfl) [0, 1, 2, 3, 45] rfl rfl rfl rfl (Nat.le_of_ble_eq_true rfl) ⟨Nat.le_of_ble_eq_true rfl, Nat.le_of_ble_eq_true rfl⟩ hr1 (fun r9 w9 v9 hq9 => ?_)
  obtain ⟨rfl, hu⟩ := hq9
  rcases hu with ⟨st, h_1, h_2, rfl, rfl⟩ | ⟨rfl, h_1, rfl⟩
  · simp only [put_cons, put_nil, List.set_cons_zero, List.set_cons_succ, List.append_nil]
    have qh_st : isN a1 4 := ⟨st, h_1, h_2⟩
    refine st_istore C.cx (dk DL_law_14 15 rfl) (by decide) rfl ?_
    refine st_aload_n C.cx (dk DL_law_14 16 rfl) rfl ?_
    refine st_aload_n C.cx (dk DL_law_14 17 rfl) rfl ?_
    refine st_iload C.cx (dk DL_law_14 18 rfl) rfl ?_
    refine st_iconst C.cx (v := 1) (dk DL_law_14 19 rfl) (by decide) ?_
    refine st_iadd C.cx (dk DL_law_14 20 rfl) ?_
    refine st_sld C (dk DL_law_14 21 rfl) h1 e1 ?_
    refine st_cV C.cx (k_X6_refusal l G hf hok) mf_X6_refusal mi_X6_refusal ml_RL_135 (dk DL_law_14 22 rfl) [34, 35] rfl rfl rfl rfl (Nat.le_of_ble_eq_true rfl) rfl rfl ⟨Nat.le_of_ble_eq_true rfl, Nat.le_of_ble_eq_true rfl⟩ hr1 (fun r8 w8 hq8 => ?_)
    rcases hq8 with ⟨g_1, rfl, rfl⟩ | ⟨str, g_1, g_2, rfl, rfl⟩
    · exfalso
      first | contradiction | omega
    · have qg_st : isN a1 4 := ⟨str, g_1, g_2⟩
      obtain rfl := (u_nI h_2 g_2 (by omega) (by omega)).symm
      simp only [put_cons, put_nil, List.set_cons_zero, List.set_cons_succ, List.append_nil]
      refine st_istore C.cx (dk DL_law_14 23 rfl) (by decide) rfl ?_
      refine st_aload_n C.cx (dk DL_law_14 24 rfl) rfl ?_
      refine st_cV C.cx (k_X6_thrown l G) mf_X6_thrown mi_X6_thrown ml_RL_80 (dk DL_law_14 25 rfl) [34] rfl rfl rfl rfl (Nat.le_of_ble_eq_true rfl) rfl rfl ⟨Nat.le_of_ble_eq_true rfl, Nat.le_of_ble_eq_true rfl⟩ hr1 (fun r9 w9 hq9 => ?_)
      obtain ⟨rfl, rfl⟩ := hq9
      show P _ _ _ _ _ [_, _, _, _, _, _, _, _, _, _, _, _, _, _, _, _, _, _, _, _, _, _, _, _, _, _, _, _, _, _, _, _, _, _, _, _, _, _, _, _, _, _, _, _, _, _]
      refine st_iload C.cx (dk DL_law_14 26 rfl) rfl ?_
      refine st_icmp_eq C.cx (tgt := 1038) (dk DL_law_14 27 rfl) (by decide) (fun c_1033 => ?_) (fun c_1033 => ?_)
      · refine st_iload C.cx (dk DL_law_14 30 rfl) rfl ?_
        refine st_if_ne C.cx (tgt := 1055) (dk DL_law_14 31 rfl) (by decide) (fun c_1040 => ?_) (fun c_1040 => ?_)
        · exact absurd rfl c_1040
        · refine st_aload_n C.cx (dk DL_law_14 32 rfl) rfl ?_
          refine st_iconst C.cx (v := 0) (dk DL_law_14 33 rfl) (by decide) ?_
          refine st_lald C.cx (dk DL_law_14 34 rfl) 45 rfl (by unfold vp_in; decide) ?_
          refine st_iload C.cx (dk DL_law_14 35 rfl) rfl ?_
          refine st_i2l C.cx (dk DL_law_14 36 rfl) ?_
          refine st_lcmp C.cx (dk DL_law_14 37 rfl) ?_
          refine st_if_eq C.cx (tgt := 1055) (dk DL_law_14 38 rfl) (by decide) (fun c_1050 => ?_) (fun c_1050 => ?_)
          · refine st_goto C.cx (tgt := 1250) (dk DL_law_15 1 rfl) (by decide) ?_
            refine st_lv C.cx [0, 1, 2, 3, 4] rfl ?_
            refine st_wide C.cx (k' := 46 + (tt + 1)) (n' := 24379 + 6 * (tt + 1)) (by omega) (by omega) ?_
            exact hk9 s k pp n tx ns lk ld os olk old nx sz rs rl rd zz rc en sn nd ln tl ce la cd ke ty 0 ap ft bo ot il f0 f1 f2 f3 f4 qu fr by9 fa fs (vp_updL og 0 (Int32.toInt64 (nI (refN s st)))) ⟨hC, hSv, htl, hn, hcd, hf, hp, hke, hty, ht, hil⟩
          · exact absurd ((lg_cmp0 _ _).mpr rfl) c_1050
      · exact absurd rfl c_1033
  · simp only [put_cons, put_nil, List.set_cons_zero, List.set_cons_succ, List.append_nil]
    refine st_istore C.cx (dk DL_law_14 15 rfl) (by decide) rfl ?_
    refine st_aload_n C.cx (dk DL_law_14 16 rfl) rfl ?_
    refine st_aload_n C.cx (dk DL_law_14 17 rfl) rfl ?_
    refine st_iload C.cx (dk DL_law_14 18 rfl) rfl ?_
    refine st_iconst C.cx (v := 1) (dk DL_law_14 19 rfl) (by decide) ?_
    refine st_iadd C.cx (dk DL_law_14 20 rfl) ?_
    refine st_sld C (dk DL_law_14 21 rfl) h1 e1 ?_
    refine st_cV C.cx (k_X6_refusal l G hf hok) mf_X6_refusal mi_X6_refusal ml_RL_135 (dk DL_law_14 22 rfl) [34, 35] rfl rfl rfl rfl (Nat.le_of_ble_eq_true rfl) rfl rfl ⟨Nat.le_of_ble_eq_true rfl, Nat.le_of_ble_eq_true rfl⟩ hr1 (fun r8 w8 hq8 => ?_)
    rcases hq8 with ⟨g_1, rfl, rfl⟩ | ⟨str, g_1, g_2, rfl, rfl⟩
    · simp only [put_cons, put_nil, List.set_cons_zero, List.set_cons_succ, List.append_nil]
      refine st_istore C.cx (dk DL_law_14 23 rfl) (by decide) rfl ?_
      refine st_aload_n C.cx (dk DL_law_14 24 rfl) rfl ?_
      refine st_cV C.cx (k_X6_thrown l G) mf_X6_thrown mi_X6_thrown ml_RL_80 (dk DL_law_14 25 rfl) [34] rfl rfl rfl rfl (Nat.le_of_ble_eq_true rfl) rfl rfl ⟨Nat.le_of_ble_eq_true rfl, Nat.le_of_ble_eq_true rfl⟩ hr1 (fun r9 w9 hq9 => ?_)
      obtain ⟨rfl, rfl⟩ := hq9
      show P _ _ _ _ _ [_, _, _, _, _, _, _, _, _, _, _, _, _, _, _, _, _, _, _, _, _, _, _, _, _, _, _, _, _, _, _, _, _, _, _, _, _, _, _, _, _, _, _, _, _, _]
      refine st_iload C.cx (dk DL_law_14 26 rfl) rfl ?_
      refine st_icmp_eq C.cx (tgt := 1038) (dk DL_law_14 27 rfl) (by decide) (fun c_1033 => ?_) (fun c_1033 => ?_)
      · refine st_iload C.cx (dk DL_law_14 30 rfl) rfl ?_
        refine st_if_ne C.cx (tgt := 1055) (dk DL_law_14 31 rfl) (by decide) (fun c_1040 => ?_) (fun c_1040 => ?_)
        · refine st_goto C.cx (tgt := 1250) (dk DL_law_15 1 rfl) (by decide) ?_
          refine st_lv C.cx [0, 1, 2, 3, 4] rfl ?_
          refine st_wide C.cx (k' := 46 + (tt + 1)) (n' := 24379 + 6 * (tt + 1)) (by omega) (by omega) ?_
          exact hk9 s k pp n tx ns lk ld os olk old nx sz rs rl rd zz rc en sn nd ln tl ce la cd ke ty 1 ap ft bo ot il f0 f1 f2 f3 f4 qu fr by9 fa fs og ⟨hC, hSv, htl, hn, hcd, hf, hp, hke, hty, ht, hil⟩
        · exact absurd c_1040 (by decide)
      · exact absurd rfl c_1033
    · have qg_st : isN a1 4 := ⟨str, g_1, g_2⟩
      exfalso
      first | contradiction | omega
set_option maxHeartbeats 8000000 in
set_option maxRecDepth 100000 in
theorem lc_ifDoor {l : Launch} {G : wG} (hlt : l.stackTraces = false) {L : Nat} {xs : Nat → Int32} {P : PT} {nm9 : String} {b K p q1 q2 o o1 o2 v v1 : Nat} {u u1 u2 : Nat → Nat} {t t1 t2 t3 t4 y y1 M : Nat} {A : Nat → Nat} {e : Nat} (C : Cv l G RL cL_law 9 nm9 room_1 (exL b L xs) P) {s : mS} {k : Nat} {pp : Nat → mS} {n : Nat} {tx : Nat → Nat} {ns : Nat → Int32} {lk : Nat → Int32} {ld : Nat → Int32} {os : Nat → Int32} {olk : Nat → Int32} {old : Nat → Int32} {nx : Int32} {sz : Int32} {rs : Nat → Nat → Int32} {rl : Nat → Nat → Int32} {rd : Nat → Nat → Int32} {zz : Int32} {rc : Int32} {en : Nat → Int32} {sn : Nat → Int64} {nd : Nat → Int32} {ln : Nat → Int32} {tl : Int32} {ce : Int32} {la : Int32} {cd : Nat → Int32} {ke : Int32} {ty : Int32} {th : Int32} {ap : Int32} {ft : Int32} {bo : Int32} {ot : Int32} {il : Int32} {f0 : Nat → Int32} {f1 : Nat → Int32} {f2 : Nat → Int32} {f3 : Nat → Int32} {f4 : Nat → Int32} {qu : Nat → Int32} {fr : Nat → Int32} {by9 : Nat → Int32} {fa : Nat → Int32} {fs : Nat → Int32} {og : Nat → Int64} (hI : INV s k pp n tx ns lk ld nx sz rs rl rd tl cd ke ty il f0 f2 f3 qu fr by9 fa fs) {x a1 a2 : Int32} {tt : Nat} (htt : tt < 512) (h1 : vp_in (x + 1) L) (h2 : vp_in (x + 2) L) (e1 : xs (x + 1).toNatClampNeg = a1) (e2 : xs (x + 2).toNatClampNeg = a2) (hk9 : LH P G b K p q1 q2 o o1 o2 v v1 u u1 u2 t t1 t2 t3 t4 y y1 M A e (46 + (tt + 1)) (24379 + 6 * (tt + 1)) x) : P (46 + tt) (24379 + 6 * tt) 1058 [(0, .ref b), (1, .ref K), (2, .ref M), (3, .ref e), (4, .int x)] [] [(K, ob 4 (kF p o v t y)), (p, ob 0 (cR q1 q2 ns)), (q1, aI G 15 lk), (q2, aI G 16 ld), (o, ob 0 (cR o1 o2 os)), (o1, aI G 15 olk), (o2, aI G 16 old), (v, ob 1 (vF v1 nx sz)), (v1, aQ G 6 (fun k => some (u k))), (u 0, ob 0 (cR (u1 0) (u2 0) (rs 0))), (u1 0, aI G 15 (rl 0)), (u2 0, aI G 16 (rd 0)), (u 1, ob 0 (cR (u1 1) (u2 1) (rs 1))), (u1 1, aI G 15 (rl 1)), (u2 1, aI G 16 (rd 1)), (u 2, ob 0 (cR (u1 2) (u2 2) (rs 2))), (u1 2, aI G 15 (rl 2)), (u2 2, aI G 16 (rd 2)), (u 3, ob 0 (cR (u1 3) (u2 3) (rs 3))), (u1 3, aI G 15 (rl 3)), (u2 3, aI G 16 (rd 3)), (u 4, ob 0 (cR (u1 4) (u2 4) (rs 4))), (u1 4, aI G 15 (rl 4)), (u2 4, aI G 16 (rd 4)), (u 5, ob 0 (cR (u1 5) (u2 5) (rs 5))), (u1 5, aI G 15 (rl 5)), (u2 5, aI G 16 (rd 5)), (t, ob 2 (sF t1 t2 t3 t4 zz rc)), (t1, aI G 4624 en), (t2, aJ G 256 sn), (t3, aI G 16 nd), (t4, aI G 16 ln), (y, ob 3 (tF y1 tl ce la)), (y1, aI G 60 cd), (M, ob 5 (mF A ke ty th ap ft bo ot il)), (A 0, aI G 53 f0), (A 1, aI G 53 f1), (A 2, aI G 318 f2), (A 3, aI G 60 f3), (A 4, aI G 48 f4), (A 5, aI G 4624 qu), (A 6, aI G 4624 fr), (A 7, aI G 4624 by9), (A 8, aI G 4624 fa), (A 9, aI G 16 fs), (e, aJ G 1 og)] := by
  obtain ⟨hC, hSv, htl, hn, hcd, hf, hp, hke, hty, ht, hil⟩ := hI
  have hok := hC.1
  have hk : k ≤ 6 := by obtain ⟨j9, -, -, -, h9, -⟩ := hSv; exact h9
  have hsz : sz = nI k := by obtain ⟨j9, -, -, h9, -⟩ := hSv; exact h9
  have hr0 : 46 + tt ≤ room_1.cells ∧ 24379 + 6 * tt ≤ room_1.slots := ⟨by show _ ≤ 601024; omega, by show _ ≤ 7293034; omega⟩
  have hr1 : 46 + tt + 1 ≤ room_1.cells ∧ 24379 + 6 * tt + 6 ≤ room_1.slots := ⟨by show _ ≤ 601024; omega, by show _ ≤ 7293034; omega⟩
  refine st_aload_n C.cx (dk DL_law_15 2 rfl) rfl ?_
  refine st_aload_n C.cx (dk DL_law_15 3 rfl) rfl ?_
  refine st_iload C.cx (dk DL_law_15 4 rfl) rfl ?_
  refine st_iconst C.cx (v := 1) (dk DL_law_15 5 rfl) (by decide) ?_
  refine st_iadd C.cx (dk DL_law_15 6 rfl) ?_
  refine st_sld C (dk DL_law_15 7 rfl) h1 e1 ?_
  refine st_aload_n C.cx (dk DL_law_15 8 rfl) rfl ?_
  refine st_iload C.cx (dk DL_law_15 9 rfl) rfl ?_
  refine st_iconst C.cx (v := 2) (dk DL_law_15 10 rfl) (by decide) ?_
  refine st_iadd C.cx (dk DL_law_15 11 rfl) ?_
  refine st_sld C (dk DL_law_15 12 rfl) h2 e2 ?_
  refine st_aload_n C.cx (dk DL_law_15 13 rfl) rfl ?_
  refine st_callH (fun _ _ _ _ h => h.1) C (kw_ifDoor l G hlt hC) mw_L_ifDoor ms_L_ifDoor mq_RL_136 (dk DL_law_15 14 rfl) [0, 1, 2, 3, 4, 5, 6, 27, 28, 29, 30, 31, 45] (hC_cons rfl (hC_cons rfl (hC_cons rfl (hC_cons rfl (hC_cons rfl (hC_cons rfl (hC_cons rfl (hC_cons rfl (hC_cons rfl (hC_cons rfl (hC_cons rfl (hC_cons rfl (hC_cons rfl (hC_nil)))))))))))))) (by decide +kernel) rfl rfl (Nat.le_of_ble_eq_true rfl) ⟨Nat.le_of_ble_eq_true rfl, Nat.le_of_ble_eq_true rfl⟩ hr1 (fun r9 w9 v9 hq9 => ?_)
  obtain ⟨rfl, hu⟩ := hq9
  rcases hu with ⟨j, i, h_1, h_2, h_3, h_4, rfl, os9, olk9, old9, zz9, rc9, en9, sn9, nd9, ln9, rfl⟩ | ⟨rfl, h_1, rfl⟩ | ⟨rfl, h_1, h_2, rfl⟩
  · simp only [put_cons, put_nil, List.set_cons_zero, List.set_cons_succ, List.append_nil]
    have qh_j : isN a1 14 := ⟨j, h_1, h_3⟩
    have qh_i : isN a2 5 := ⟨i, h_2, h_4⟩
    refine st_istore C.cx (dk DL_law_15 15 rfl) (by decide) rfl ?_
    refine st_aload_n C.cx (dk DL_law_15 16 rfl) rfl ?_
    refine st_aload_n C.cx (dk DL_law_15 17 rfl) rfl ?_
    refine st_iload C.cx (dk DL_law_15 18 rfl) rfl ?_
    refine st_iconst C.cx (v := 1) (dk DL_law_15 19 rfl) (by decide) ?_
    refine st_iadd C.cx (dk DL_law_15 20 rfl) ?_
    refine st_sld C (dk DL_law_15 21 rfl) h1 e1 ?_
    refine st_aload_n C.cx (dk DL_law_15 22 rfl) rfl ?_
    refine st_iload C.cx (dk DL_law_15 23 rfl) rfl ?_
    refine st_iconst C.cx (v := 2) (dk DL_law_15 24 rfl) (by decide) ?_
    refine st_iadd C.cx (dk DL_law_15 25 rfl) ?_
    refine st_sld C (dk DL_law_15 26 rfl) h2 e2 ?_
    refine st_cV C.cx (k_X6_ifDoor l G hf hok) mf_X6_ifDoor mi_X6_ifDoor ml_RL_138 (dk DL_law_15 27 rfl) [34, 35, 36, 40, 41, 42, 43, 44] rfl rfl rfl rfl (Nat.le_of_ble_eq_true rfl) rfl rfl ⟨Nat.le_of_ble_eq_true rfl, Nat.le_of_ble_eq_true rfl⟩ hr1 (fun r8 w8 hq8 => ?_)
    rcases hq8 with ⟨g_1, rfl, rfl⟩ | ⟨g_1, g_2, rfl, rfl⟩ | ⟨jr, ir, g_1, g_2, g_3, g_4, rfl, bo9r, ot9r, f19r, qu9r, fr9r, by99r, fa9r, fs9r, rfl⟩
    · exfalso
      first | contradiction | omega
    · exfalso
      first | contradiction | omega
    · have qg_j : isN a1 14 := ⟨jr, g_1, g_3⟩
      have qg_i : isN a2 5 := ⟨ir, g_2, g_4⟩
      obtain rfl := (u_nI h_3 g_3 (by omega) (by omega)).symm
      obtain rfl := (u_nI h_4 g_4 (by omega) (by omega)).symm
      simp only [put_cons, put_nil, List.set_cons_zero, List.set_cons_succ, List.append_nil]
      refine st_istore C.cx (dk DL_law_15 28 rfl) (by decide) rfl ?_
      refine st_aload_n C.cx (dk DL_law_15 29 rfl) rfl ?_
      refine st_cV C.cx (k_X6_thrown l G) mf_X6_thrown mi_X6_thrown ml_RL_80 (dk DL_law_15 30 rfl) [34] rfl rfl rfl rfl (Nat.le_of_ble_eq_true rfl) rfl rfl ⟨Nat.le_of_ble_eq_true rfl, Nat.le_of_ble_eq_true rfl⟩ hr1 (fun r9 w9 hq9 => ?_)
      obtain ⟨rfl, rfl⟩ := hq9
      show P _ _ _ _ _ [_, _, _, _, _, _, _, _, _, _, _, _, _, _, _, _, _, _, _, _, _, _, _, _, _, _, _, _, _, _, _, _, _, _, _, _, _, _, _, _, _, _, _, _, _, _]
      refine st_iload C.cx (dk DL_law_15 31 rfl) rfl ?_
      refine st_icmp_eq C.cx (tgt := 1106) (dk DL_law_15 32 rfl) (by decide) (fun c_1101 => ?_) (fun c_1101 => ?_)
      · refine st_iload C.cx (dk DL_law_15 35 rfl) rfl ?_
        refine st_if_ne C.cx (tgt := 1123) (dk DL_law_15 36 rfl) (by decide) (fun c_1108 => ?_) (fun c_1108 => ?_)
        · exact absurd rfl c_1108
        · refine st_aload_n C.cx (dk DL_law_15 37 rfl) rfl ?_
          refine st_iconst C.cx (v := 0) (dk DL_law_15 38 rfl) (by decide) ?_
          refine st_lald C.cx (dk DL_law_15 39 rfl) 45 rfl (by unfold vp_in; decide) ?_
          refine st_iload C.cx (dk DL_law_16 0 rfl) rfl ?_
          refine st_i2l C.cx (dk DL_law_16 1 rfl) ?_
          refine st_lcmp C.cx (dk DL_law_16 2 rfl) ?_
          refine st_if_eq C.cx (tgt := 1123) (dk DL_law_16 3 rfl) (by decide) (fun c_1118 => ?_) (fun c_1118 => ?_)
          · refine st_goto C.cx (tgt := 1250) (dk DL_law_16 6 rfl) (by decide) ?_
            refine st_lv C.cx [0, 1, 2, 3, 4] rfl ?_
            refine st_wide C.cx (k' := 46 + (tt + 1)) (n' := 24379 + 6 * (tt + 1)) (by omega) (by omega) ?_
            exact hk9 s k pp n tx ns lk ld os9 olk9 old9 nx sz rs rl rd zz9 rc9 en9 sn9 nd9 ln9 tl ce la cd ke ty 0 ap ft bo9r ot9r 0 f0 f19r f2 f3 f4 qu9r fr9r by99r fa9r fs9r (vp_updL og 0 (Int32.toInt64 (nI (cnt (fS (updS s (22 + j) i)) 16)))) ⟨hC, hSv, htl, hn, hcd, hf, hp, hke, hty, ht, Or.inl rfl⟩
          · exact absurd ((lg_cmp0 _ _).mpr rfl) c_1118
      · exact absurd rfl c_1101
  · simp only [put_cons, put_nil, List.set_cons_zero, List.set_cons_succ, List.append_nil]
    refine st_istore C.cx (dk DL_law_15 15 rfl) (by decide) rfl ?_
    refine st_aload_n C.cx (dk DL_law_15 16 rfl) rfl ?_
    refine st_aload_n C.cx (dk DL_law_15 17 rfl) rfl ?_
    refine st_iload C.cx (dk DL_law_15 18 rfl) rfl ?_
    refine st_iconst C.cx (v := 1) (dk DL_law_15 19 rfl) (by decide) ?_
    refine st_iadd C.cx (dk DL_law_15 20 rfl) ?_
    refine st_sld C (dk DL_law_15 21 rfl) h1 e1 ?_
    refine st_aload_n C.cx (dk DL_law_15 22 rfl) rfl ?_
    refine st_iload C.cx (dk DL_law_15 23 rfl) rfl ?_
    refine st_iconst C.cx (v := 2) (dk DL_law_15 24 rfl) (by decide) ?_
    refine st_iadd C.cx (dk DL_law_15 25 rfl) ?_
    refine st_sld C (dk DL_law_15 26 rfl) h2 e2 ?_
    refine st_cV C.cx (k_X6_ifDoor l G hf hok) mf_X6_ifDoor mi_X6_ifDoor ml_RL_138 (dk DL_law_15 27 rfl) [34, 35, 36, 40, 41, 42, 43, 44] rfl rfl rfl rfl (Nat.le_of_ble_eq_true rfl) rfl rfl ⟨Nat.le_of_ble_eq_true rfl, Nat.le_of_ble_eq_true rfl⟩ hr1 (fun r8 w8 hq8 => ?_)
    rcases hq8 with ⟨g_1, rfl, rfl⟩ | ⟨g_1, g_2, rfl, rfl⟩ | ⟨jr, ir, g_1, g_2, g_3, g_4, rfl, bo9r, ot9r, f19r, qu9r, fr9r, by99r, fa9r, fs9r, rfl⟩
    · simp only [put_cons, put_nil, List.set_cons_zero, List.set_cons_succ, List.append_nil]
      refine st_istore C.cx (dk DL_law_15 28 rfl) (by decide) rfl ?_
      refine st_aload_n C.cx (dk DL_law_15 29 rfl) rfl ?_
      refine st_cV C.cx (k_X6_thrown l G) mf_X6_thrown mi_X6_thrown ml_RL_80 (dk DL_law_15 30 rfl) [34] rfl rfl rfl rfl (Nat.le_of_ble_eq_true rfl) rfl rfl ⟨Nat.le_of_ble_eq_true rfl, Nat.le_of_ble_eq_true rfl⟩ hr1 (fun r9 w9 hq9 => ?_)
      obtain ⟨rfl, rfl⟩ := hq9
      show P _ _ _ _ _ [_, _, _, _, _, _, _, _, _, _, _, _, _, _, _, _, _, _, _, _, _, _, _, _, _, _, _, _, _, _, _, _, _, _, _, _, _, _, _, _, _, _, _, _, _, _]
      refine st_iload C.cx (dk DL_law_15 31 rfl) rfl ?_
      refine st_icmp_eq C.cx (tgt := 1106) (dk DL_law_15 32 rfl) (by decide) (fun c_1101 => ?_) (fun c_1101 => ?_)
      · refine st_iload C.cx (dk DL_law_15 35 rfl) rfl ?_
        refine st_if_ne C.cx (tgt := 1123) (dk DL_law_15 36 rfl) (by decide) (fun c_1108 => ?_) (fun c_1108 => ?_)
        · refine st_goto C.cx (tgt := 1250) (dk DL_law_16 6 rfl) (by decide) ?_
          refine st_lv C.cx [0, 1, 2, 3, 4] rfl ?_
          refine st_wide C.cx (k' := 46 + (tt + 1)) (n' := 24379 + 6 * (tt + 1)) (by omega) (by omega) ?_
          exact hk9 s k pp n tx ns lk ld os olk old nx sz rs rl rd zz rc en sn nd ln tl ce la cd ke ty 1 ap ft bo ot il f0 f1 f2 f3 f4 qu fr by9 fa fs og ⟨hC, hSv, htl, hn, hcd, hf, hp, hke, hty, ht, hil⟩
        · exact absurd c_1108 (by decide)
      · exact absurd rfl c_1101
    · exfalso
      first | contradiction | omega
    · have qg_j : isN a1 14 := ⟨jr, g_1, g_3⟩
      have qg_i : isN a2 5 := ⟨ir, g_2, g_4⟩
      exfalso
      first | contradiction | omega
  · simp only [put_cons, put_nil, List.set_cons_zero, List.set_cons_succ, List.append_nil]
    refine st_istore C.cx (dk DL_law_15 15 rfl) (by decide) rfl ?_
    refine st_aload_n C.cx (dk DL_law_15 16 rfl) rfl ?_
    refine st_aload_n C.cx (dk DL_law_15 17 rfl) rfl ?_
    refine st_iload C.cx (dk DL_law_15 18 rfl) rfl ?_
    refine st_iconst C.cx (v := 1) (dk DL_law_15 19 rfl) (by decide) ?_
    refine st_iadd C.cx (dk DL_law_15 20 rfl) ?_
    refine st_sld C (dk DL_law_15 21 rfl) h1 e1 ?_
    refine st_aload_n C.cx (dk DL_law_15 22 rfl) rfl ?_
    refine st_iload C.cx (dk DL_law_15 23 rfl) rfl ?_
    refine st_iconst C.cx (v := 2) (dk DL_law_15 24 rfl) (by decide) ?_
    refine st_iadd C.cx (dk DL_law_15 25 rfl) ?_
    refine st_sld C (dk DL_law_15 26 rfl) h2 e2 ?_
    refine st_cV C.cx (k_X6_ifDoor l G hf hok) mf_X6_ifDoor mi_X6_ifDoor ml_RL_138 (dk DL_law_15 27 rfl) [34, 35, 36, 40, 41, 42, 43, 44] rfl rfl rfl rfl (Nat.le_of_ble_eq_true rfl) rfl rfl ⟨Nat.le_of_ble_eq_true rfl, Nat.le_of_ble_eq_true rfl⟩ hr1 (fun r8 w8 hq8 => ?_)
    rcases hq8 with ⟨g_1, rfl, rfl⟩ | ⟨g_1, g_2, rfl, rfl⟩ | ⟨jr, ir, g_1, g_2, g_3, g_4, rfl, bo9r, ot9r, f19r, qu9r, fr9r, by99r, fa9r, fs9r, rfl⟩
    · exfalso
      first | contradiction | omega
    · simp only [put_cons, put_nil, List.set_cons_zero, List.set_cons_succ, List.append_nil]
      refine st_istore C.cx (dk DL_law_15 28 rfl) (by decide) rfl ?_
      refine st_aload_n C.cx (dk DL_law_15 29 rfl) rfl ?_
      refine st_cV C.cx (k_X6_thrown l G) mf_X6_thrown mi_X6_thrown ml_RL_80 (dk DL_law_15 30 rfl) [34] rfl rfl rfl rfl (Nat.le_of_ble_eq_true rfl) rfl rfl ⟨Nat.le_of_ble_eq_true rfl, Nat.le_of_ble_eq_true rfl⟩ hr1 (fun r9 w9 hq9 => ?_)
      obtain ⟨rfl, rfl⟩ := hq9
      show P _ _ _ _ _ [_, _, _, _, _, _, _, _, _, _, _, _, _, _, _, _, _, _, _, _, _, _, _, _, _, _, _, _, _, _, _, _, _, _, _, _, _, _, _, _, _, _, _, _, _, _]
      refine st_iload C.cx (dk DL_law_15 31 rfl) rfl ?_
      refine st_icmp_eq C.cx (tgt := 1106) (dk DL_law_15 32 rfl) (by decide) (fun c_1101 => ?_) (fun c_1101 => ?_)
      · refine st_iload C.cx (dk DL_law_15 35 rfl) rfl ?_
        refine st_if_ne C.cx (tgt := 1123) (dk DL_law_15 36 rfl) (by decide) (fun c_1108 => ?_) (fun c_1108 => ?_)
        · refine st_goto C.cx (tgt := 1250) (dk DL_law_16 6 rfl) (by decide) ?_
          refine st_lv C.cx [0, 1, 2, 3, 4] rfl ?_
          refine st_wide C.cx (k' := 46 + (tt + 1)) (n' := 24379 + 6 * (tt + 1)) (by omega) (by omega) ?_
          exact hk9 s k pp n tx ns lk ld os olk old nx sz rs rl rd zz rc en sn nd ln tl ce la cd ke ty 2 ap ft bo ot il f0 f1 f2 f3 f4 qu fr by9 fa fs og ⟨hC, hSv, htl, hn, hcd, hf, hp, hke, hty, ht, hil⟩
        · exact absurd c_1108 (by decide)
      · exact absurd rfl c_1101
    · have qg_j : isN a1 14 := ⟨jr, g_1, g_3⟩
      have qg_i : isN a2 5 := ⟨ir, g_2, g_4⟩
      exfalso
      first | contradiction | omega
set_option maxHeartbeats 8000000 in
set_option maxRecDepth 100000 in
theorem lc_without {l : Launch} {G : wG} (hlt : l.stackTraces = false) {L : Nat} {xs : Nat → Int32} {P : PT} {nm9 : String} {b K p q1 q2 o o1 o2 v v1 : Nat} {u u1 u2 : Nat → Nat} {t t1 t2 t3 t4 y y1 M : Nat} {A : Nat → Nat} {e : Nat} (C : Cv l G RL cL_law 9 nm9 room_1 (exL b L xs) P) {s : mS} {k : Nat} {pp : Nat → mS} {n : Nat} {tx : Nat → Nat} {ns : Nat → Int32} {lk : Nat → Int32} {ld : Nat → Int32} {os : Nat → Int32} {olk : Nat → Int32} {old : Nat → Int32} {nx : Int32} {sz : Int32} {rs : Nat → Nat → Int32} {rl : Nat → Nat → Int32} {rd : Nat → Nat → Int32} {zz : Int32} {rc : Int32} {en : Nat → Int32} {sn : Nat → Int64} {nd : Nat → Int32} {ln : Nat → Int32} {tl : Int32} {ce : Int32} {la : Int32} {cd : Nat → Int32} {ke : Int32} {ty : Int32} {th : Int32} {ap : Int32} {ft : Int32} {bo : Int32} {ot : Int32} {il : Int32} {f0 : Nat → Int32} {f1 : Nat → Int32} {f2 : Nat → Int32} {f3 : Nat → Int32} {f4 : Nat → Int32} {qu : Nat → Int32} {fr : Nat → Int32} {by9 : Nat → Int32} {fa : Nat → Int32} {fs : Nat → Int32} {og : Nat → Int64} (hI : INV s k pp n tx ns lk ld nx sz rs rl rd tl cd ke ty il f0 f2 f3 qu fr by9 fa fs) {x a1 a2 : Int32} {tt : Nat} (htt : tt < 512) (h1 : vp_in (x + 1) L) (h2 : vp_in (x + 2) L) (e1 : xs (x + 1).toNatClampNeg = a1) (e2 : xs (x + 2).toNatClampNeg = a2) (hk9 : LH P G b K p q1 q2 o o1 o2 v v1 u u1 u2 t t1 t2 t3 t4 y y1 M A e (46 + (tt + 1)) (24379 + 6 * (tt + 1)) x) : P (46 + tt) (24379 + 6 * tt) 1126 [(0, .ref b), (1, .ref K), (2, .ref M), (3, .ref e), (4, .int x)] [] [(K, ob 4 (kF p o v t y)), (p, ob 0 (cR q1 q2 ns)), (q1, aI G 15 lk), (q2, aI G 16 ld), (o, ob 0 (cR o1 o2 os)), (o1, aI G 15 olk), (o2, aI G 16 old), (v, ob 1 (vF v1 nx sz)), (v1, aQ G 6 (fun k => some (u k))), (u 0, ob 0 (cR (u1 0) (u2 0) (rs 0))), (u1 0, aI G 15 (rl 0)), (u2 0, aI G 16 (rd 0)), (u 1, ob 0 (cR (u1 1) (u2 1) (rs 1))), (u1 1, aI G 15 (rl 1)), (u2 1, aI G 16 (rd 1)), (u 2, ob 0 (cR (u1 2) (u2 2) (rs 2))), (u1 2, aI G 15 (rl 2)), (u2 2, aI G 16 (rd 2)), (u 3, ob 0 (cR (u1 3) (u2 3) (rs 3))), (u1 3, aI G 15 (rl 3)), (u2 3, aI G 16 (rd 3)), (u 4, ob 0 (cR (u1 4) (u2 4) (rs 4))), (u1 4, aI G 15 (rl 4)), (u2 4, aI G 16 (rd 4)), (u 5, ob 0 (cR (u1 5) (u2 5) (rs 5))), (u1 5, aI G 15 (rl 5)), (u2 5, aI G 16 (rd 5)), (t, ob 2 (sF t1 t2 t3 t4 zz rc)), (t1, aI G 4624 en), (t2, aJ G 256 sn), (t3, aI G 16 nd), (t4, aI G 16 ln), (y, ob 3 (tF y1 tl ce la)), (y1, aI G 60 cd), (M, ob 5 (mF A ke ty th ap ft bo ot il)), (A 0, aI G 53 f0), (A 1, aI G 53 f1), (A 2, aI G 318 f2), (A 3, aI G 60 f3), (A 4, aI G 48 f4), (A 5, aI G 4624 qu), (A 6, aI G 4624 fr), (A 7, aI G 4624 by9), (A 8, aI G 4624 fa), (A 9, aI G 16 fs), (e, aJ G 1 og)] := by
  obtain ⟨hC, hSv, htl, hn, hcd, hf, hp, hke, hty, ht, hil⟩ := hI
  have hok := hC.1
  have hk : k ≤ 6 := by obtain ⟨j9, -, -, -, h9, -⟩ := hSv; exact h9
  have hsz : sz = nI k := by obtain ⟨j9, -, -, h9, -⟩ := hSv; exact h9
  have hr0 : 46 + tt ≤ room_1.cells ∧ 24379 + 6 * tt ≤ room_1.slots := ⟨by show _ ≤ 601024; omega, by show _ ≤ 7293034; omega⟩
  have hr1 : 46 + tt + 1 ≤ room_1.cells ∧ 24379 + 6 * tt + 6 ≤ room_1.slots := ⟨by show _ ≤ 601024; omega, by show _ ≤ 7293034; omega⟩
  refine st_aload_n C.cx (dk DL_law_16 7 rfl) rfl ?_
  refine st_aload_n C.cx (dk DL_law_16 8 rfl) rfl ?_
  refine st_iload C.cx (dk DL_law_16 9 rfl) rfl ?_
  refine st_iconst C.cx (v := 1) (dk DL_law_16 10 rfl) (by decide) ?_
  refine st_iadd C.cx (dk DL_law_16 11 rfl) ?_
  refine st_sld C (dk DL_law_16 12 rfl) h1 e1 ?_
  refine st_aload_n C.cx (dk DL_law_16 13 rfl) rfl ?_
  refine st_callH (fun _ _ _ _ h => h.1) C (kw_without l G hlt hC) mw_L_without ms_L_without mq_RL_139 (dk DL_law_16 14 rfl) [0, 1, 2, 3, 4, 5, 6, 27, 28, 29, 30, 31, 45] (hC_cons rfl (hC_cons rfl (hC_cons rfl (hC_cons rfl (hC_cons rfl (hC_cons rfl (hC_cons rfl (hC_cons rfl (hC_cons rfl (hC_cons rfl (hC_cons rfl (hC_cons rfl (hC_cons rfl (hC_nil)))))))))))))) (by decide +kernel) rfl rfl (Nat.le_of_ble_eq_true rfl) ⟨Nat.le_of_ble_eq_true rfl, Nat.le_of_ble_eq_true rfl⟩ hr1 (fun r9 w9 v9 hq9 => ?_)
  obtain ⟨rfl, hu⟩ := hq9
  rcases hu with ⟨j, h_1, h_2, rfl, os9, olk9, old9, zz9, rc9, en9, sn9, nd9, ln9, rfl⟩ | ⟨rfl, h_1, rfl⟩
  · simp only [put_cons, put_nil, List.set_cons_zero, List.set_cons_succ, List.append_nil]
    have qh_j : isN a1 15 := ⟨j, h_1, h_2⟩
    refine st_istore C.cx (dk DL_law_16 15 rfl) (by decide) rfl ?_
    refine st_aload_n C.cx (dk DL_law_16 16 rfl) rfl ?_
    refine st_aload_n C.cx (dk DL_law_16 17 rfl) rfl ?_
    refine st_iload C.cx (dk DL_law_16 18 rfl) rfl ?_
    refine st_iconst C.cx (v := 1) (dk DL_law_16 19 rfl) (by decide) ?_
    refine st_iadd C.cx (dk DL_law_16 20 rfl) ?_
    refine st_sld C (dk DL_law_16 21 rfl) h1 e1 ?_
    refine st_cV C.cx (k_X6_without l G hf hok) mf_X6_without mi_X6_without ml_RL_141 (dk DL_law_16 22 rfl) [34, 35, 36, 40, 41, 42, 43, 44] rfl rfl rfl rfl (Nat.le_of_ble_eq_true rfl) rfl rfl ⟨Nat.le_of_ble_eq_true rfl, Nat.le_of_ble_eq_true rfl⟩ hr1 (fun r8 w8 hq8 => ?_)
    rcases hq8 with ⟨g_1, rfl, rfl⟩ | ⟨jr, g_1, g_2, rfl, bo9r, ot9r, f19r, qu9r, fr9r, by99r, fa9r, fs9r, rfl⟩
    · exfalso
      first | contradiction | omega
    · have qg_j : isN a1 15 := ⟨jr, g_1, g_2⟩
      obtain rfl := (u_nI h_2 g_2 (by omega) (by omega)).symm
      simp only [put_cons, put_nil, List.set_cons_zero, List.set_cons_succ, List.append_nil]
      refine st_istore C.cx (dk DL_law_16 23 rfl) (by decide) rfl ?_
      refine st_aload_n C.cx (dk DL_law_16 24 rfl) rfl ?_
      refine st_cV C.cx (k_X6_thrown l G) mf_X6_thrown mi_X6_thrown ml_RL_80 (dk DL_law_16 25 rfl) [34] rfl rfl rfl rfl (Nat.le_of_ble_eq_true rfl) rfl rfl ⟨Nat.le_of_ble_eq_true rfl, Nat.le_of_ble_eq_true rfl⟩ hr1 (fun r9 w9 hq9 => ?_)
      obtain ⟨rfl, rfl⟩ := hq9
      show P _ _ _ _ _ [_, _, _, _, _, _, _, _, _, _, _, _, _, _, _, _, _, _, _, _, _, _, _, _, _, _, _, _, _, _, _, _, _, _, _, _, _, _, _, _, _, _, _, _, _, _]
      refine st_iload C.cx (dk DL_law_16 26 rfl) rfl ?_
      refine st_icmp_eq C.cx (tgt := 1162) (dk DL_law_16 27 rfl) (by decide) (fun c_1157 => ?_) (fun c_1157 => ?_)
      · refine st_iload C.cx (dk DL_law_16 30 rfl) rfl ?_
        refine st_if_ne C.cx (tgt := 1179) (dk DL_law_16 31 rfl) (by decide) (fun c_1164 => ?_) (fun c_1164 => ?_)
        · exact absurd rfl c_1164
        · refine st_aload_n C.cx (dk DL_law_16 32 rfl) rfl ?_
          refine st_iconst C.cx (v := 0) (dk DL_law_16 33 rfl) (by decide) ?_
          refine st_lald C.cx (dk DL_law_16 34 rfl) 45 rfl (by unfold vp_in; decide) ?_
          refine st_iload C.cx (dk DL_law_16 35 rfl) rfl ?_
          refine st_i2l C.cx (dk DL_law_16 36 rfl) ?_
          refine st_lcmp C.cx (dk DL_law_16 37 rfl) ?_
          refine st_if_eq C.cx (tgt := 1179) (dk DL_law_16 38 rfl) (by decide) (fun c_1174 => ?_) (fun c_1174 => ?_)
          · refine st_goto C.cx (tgt := 1250) (dk DL_law_17 1 rfl) (by decide) ?_
            refine st_lv C.cx [0, 1, 2, 3, 4] rfl ?_
            refine st_wide C.cx (k' := 46 + (tt + 1)) (n' := 24379 + 6 * (tt + 1)) (by omega) (by omega) ?_
            exact hk9 s k pp n tx ns lk ld os9 olk9 old9 nx sz rs rl rd zz9 rc9 en9 sn9 nd9 ln9 tl ce la cd ke ty 0 ap ft bo9r ot9r 0 f0 f19r f2 f3 f4 qu9r fr9r by99r fa9r fs9r (vp_updL og 0 (Int32.toInt64 (nI (cnt (fS (updS s (6 + j) 0)) 16)))) ⟨hC, hSv, htl, hn, hcd, hf, hp, hke, hty, ht, Or.inl rfl⟩
          · exact absurd ((lg_cmp0 _ _).mpr rfl) c_1174
      · exact absurd rfl c_1157
  · simp only [put_cons, put_nil, List.set_cons_zero, List.set_cons_succ, List.append_nil]
    refine st_istore C.cx (dk DL_law_16 15 rfl) (by decide) rfl ?_
    refine st_aload_n C.cx (dk DL_law_16 16 rfl) rfl ?_
    refine st_aload_n C.cx (dk DL_law_16 17 rfl) rfl ?_
    refine st_iload C.cx (dk DL_law_16 18 rfl) rfl ?_
    refine st_iconst C.cx (v := 1) (dk DL_law_16 19 rfl) (by decide) ?_
    refine st_iadd C.cx (dk DL_law_16 20 rfl) ?_
    refine st_sld C (dk DL_law_16 21 rfl) h1 e1 ?_
    refine st_cV C.cx (k_X6_without l G hf hok) mf_X6_without mi_X6_without ml_RL_141 (dk DL_law_16 22 rfl) [34, 35, 36, 40, 41, 42, 43, 44] rfl rfl rfl rfl (Nat.le_of_ble_eq_true rfl) rfl rfl ⟨Nat.le_of_ble_eq_true rfl, Nat.le_of_ble_eq_true rfl⟩ hr1 (fun r8 w8 hq8 => ?_)
    rcases hq8 with ⟨g_1, rfl, rfl⟩ | ⟨jr, g_1, g_2, rfl, bo9r, ot9r, f19r, qu9r, fr9r, by99r, fa9r, fs9r, rfl⟩
    · simp only [put_cons, put_nil, List.set_cons_zero, List.set_cons_succ, List.append_nil]
      refine st_istore C.cx (dk DL_law_16 23 rfl) (by decide) rfl ?_
      refine st_aload_n C.cx (dk DL_law_16 24 rfl) rfl ?_
      refine st_cV C.cx (k_X6_thrown l G) mf_X6_thrown mi_X6_thrown ml_RL_80 (dk DL_law_16 25 rfl) [34] rfl rfl rfl rfl (Nat.le_of_ble_eq_true rfl) rfl rfl ⟨Nat.le_of_ble_eq_true rfl, Nat.le_of_ble_eq_true rfl⟩ hr1 (fun r9 w9 hq9 => ?_)
      obtain ⟨rfl, rfl⟩ := hq9
      show P _ _ _ _ _ [_, _, _, _, _, _, _, _, _, _, _, _, _, _, _, _, _, _, _, _, _, _, _, _, _, _, _, _, _, _, _, _, _, _, _, _, _, _, _, _, _, _, _, _, _, _]
      refine st_iload C.cx (dk DL_law_16 26 rfl) rfl ?_
      refine st_icmp_eq C.cx (tgt := 1162) (dk DL_law_16 27 rfl) (by decide) (fun c_1157 => ?_) (fun c_1157 => ?_)
      · refine st_iload C.cx (dk DL_law_16 30 rfl) rfl ?_
        refine st_if_ne C.cx (tgt := 1179) (dk DL_law_16 31 rfl) (by decide) (fun c_1164 => ?_) (fun c_1164 => ?_)
        · refine st_goto C.cx (tgt := 1250) (dk DL_law_17 1 rfl) (by decide) ?_
          refine st_lv C.cx [0, 1, 2, 3, 4] rfl ?_
          refine st_wide C.cx (k' := 46 + (tt + 1)) (n' := 24379 + 6 * (tt + 1)) (by omega) (by omega) ?_
          exact hk9 s k pp n tx ns lk ld os olk old nx sz rs rl rd zz rc en sn nd ln tl ce la cd ke ty 1 ap ft bo ot il f0 f1 f2 f3 f4 qu fr by9 fa fs og ⟨hC, hSv, htl, hn, hcd, hf, hp, hke, hty, ht, hil⟩
        · exact absurd c_1164 (by decide)
      · exact absurd rfl c_1157
    · have qg_j : isN a1 15 := ⟨jr, g_1, g_2⟩
      exfalso
      first | contradiction | omega
set_option maxHeartbeats 8000000 in
set_option maxRecDepth 100000 in
theorem lc_bestFold {l : Launch} {G : wG} (hlt : l.stackTraces = false) {L : Nat} {xs : Nat → Int32} {P : PT} {nm9 : String} {b K p q1 q2 o o1 o2 v v1 : Nat} {u u1 u2 : Nat → Nat} {t t1 t2 t3 t4 y y1 M : Nat} {A : Nat → Nat} {e : Nat} (C : Cv l G RL cL_law 9 nm9 room_1 (exL b L xs) P) {s : mS} {k : Nat} {pp : Nat → mS} {n : Nat} {tx : Nat → Nat} {ns : Nat → Int32} {lk : Nat → Int32} {ld : Nat → Int32} {os : Nat → Int32} {olk : Nat → Int32} {old : Nat → Int32} {nx : Int32} {sz : Int32} {rs : Nat → Nat → Int32} {rl : Nat → Nat → Int32} {rd : Nat → Nat → Int32} {zz : Int32} {rc : Int32} {en : Nat → Int32} {sn : Nat → Int64} {nd : Nat → Int32} {ln : Nat → Int32} {tl : Int32} {ce : Int32} {la : Int32} {cd : Nat → Int32} {ke : Int32} {ty : Int32} {th : Int32} {ap : Int32} {ft : Int32} {bo : Int32} {ot : Int32} {il : Int32} {f0 : Nat → Int32} {f1 : Nat → Int32} {f2 : Nat → Int32} {f3 : Nat → Int32} {f4 : Nat → Int32} {qu : Nat → Int32} {fr : Nat → Int32} {by9 : Nat → Int32} {fa : Nat → Int32} {fs : Nat → Int32} {og : Nat → Int64} (hI : INV s k pp n tx ns lk ld nx sz rs rl rd tl cd ke ty il f0 f2 f3 qu fr by9 fa fs) {x a1 a2 : Int32} {tt : Nat} (htt : tt < 512) (h1 : vp_in (x + 1) L) (h2 : vp_in (x + 2) L) (e1 : xs (x + 1).toNatClampNeg = a1) (e2 : xs (x + 2).toNatClampNeg = a2) (hk9 : LH P G b K p q1 q2 o o1 o2 v v1 u u1 u2 t t1 t2 t3 t4 y y1 M A e (46 + (tt + 1)) (24379 + 6 * (tt + 1)) x) : P (46 + tt) (24379 + 6 * tt) 1182 [(0, .ref b), (1, .ref K), (2, .ref M), (3, .ref e), (4, .int x)] [] [(K, ob 4 (kF p o v t y)), (p, ob 0 (cR q1 q2 ns)), (q1, aI G 15 lk), (q2, aI G 16 ld), (o, ob 0 (cR o1 o2 os)), (o1, aI G 15 olk), (o2, aI G 16 old), (v, ob 1 (vF v1 nx sz)), (v1, aQ G 6 (fun k => some (u k))), (u 0, ob 0 (cR (u1 0) (u2 0) (rs 0))), (u1 0, aI G 15 (rl 0)), (u2 0, aI G 16 (rd 0)), (u 1, ob 0 (cR (u1 1) (u2 1) (rs 1))), (u1 1, aI G 15 (rl 1)), (u2 1, aI G 16 (rd 1)), (u 2, ob 0 (cR (u1 2) (u2 2) (rs 2))), (u1 2, aI G 15 (rl 2)), (u2 2, aI G 16 (rd 2)), (u 3, ob 0 (cR (u1 3) (u2 3) (rs 3))), (u1 3, aI G 15 (rl 3)), (u2 3, aI G 16 (rd 3)), (u 4, ob 0 (cR (u1 4) (u2 4) (rs 4))), (u1 4, aI G 15 (rl 4)), (u2 4, aI G 16 (rd 4)), (u 5, ob 0 (cR (u1 5) (u2 5) (rs 5))), (u1 5, aI G 15 (rl 5)), (u2 5, aI G 16 (rd 5)), (t, ob 2 (sF t1 t2 t3 t4 zz rc)), (t1, aI G 4624 en), (t2, aJ G 256 sn), (t3, aI G 16 nd), (t4, aI G 16 ln), (y, ob 3 (tF y1 tl ce la)), (y1, aI G 60 cd), (M, ob 5 (mF A ke ty th ap ft bo ot il)), (A 0, aI G 53 f0), (A 1, aI G 53 f1), (A 2, aI G 318 f2), (A 3, aI G 60 f3), (A 4, aI G 48 f4), (A 5, aI G 4624 qu), (A 6, aI G 4624 fr), (A 7, aI G 4624 by9), (A 8, aI G 4624 fa), (A 9, aI G 16 fs), (e, aJ G 1 og)] := by
  obtain ⟨hC, hSv, htl, hn, hcd, hf, hp, hke, hty, ht, hil⟩ := hI
  have hok := hC.1
  have hk : k ≤ 6 := by obtain ⟨j9, -, -, -, h9, -⟩ := hSv; exact h9
  have hsz : sz = nI k := by obtain ⟨j9, -, -, h9, -⟩ := hSv; exact h9
  have hr0 : 46 + tt ≤ room_1.cells ∧ 24379 + 6 * tt ≤ room_1.slots := ⟨by show _ ≤ 601024; omega, by show _ ≤ 7293034; omega⟩
  have hr1 : 46 + tt + 1 ≤ room_1.cells ∧ 24379 + 6 * tt + 6 ≤ room_1.slots := ⟨by show _ ≤ 601024; omega, by show _ ≤ 7293034; omega⟩
  refine st_aload_n C.cx (dk DL_law_17 2 rfl) rfl ?_
  refine st_cV C.cx (k_X5_bestFold l G hC) mf_X5_bestFold mi_X5_bestFold ml_RL_142 (dk DL_law_17 3 rfl) [0, 1, 2, 3, 4, 5, 6, 27, 28, 29, 30, 31] rfl rfl rfl rfl (Nat.le_of_ble_eq_true rfl) rfl rfl ⟨Nat.le_of_ble_eq_true rfl, Nat.le_of_ble_eq_true rfl⟩ hr0 (fun r9 w9 hq9 => ?_)
  obtain ⟨rfl, os9, olk9, old9, zz9, rc9, en9, sn9, nd9, ln9, rfl⟩ := hq9
  simp only [put_cons, put_nil, List.set_cons_zero, List.set_cons_succ, List.append_nil]
  refine st_aload_n C.cx (dk DL_law_17 4 rfl) rfl ?_
  refine st_cV C.cx (k_X6_bestFold l G hf hok) mf_X6_bestFold mi_X6_bestFold ml_RL_145 (dk DL_law_17 5 rfl) [34, 35, 36, 40, 41, 42, 43, 44] rfl rfl rfl rfl (Nat.le_of_ble_eq_true rfl) rfl rfl ⟨Nat.le_of_ble_eq_true rfl, Nat.le_of_ble_eq_true rfl⟩ hr0 (fun r8 w8 hq8 => ?_)
  obtain ⟨rfl, bo9r, ot9r, f19r, qu9r, fr9r, by99r, fa9r, fs9r, rfl⟩ := hq8
  simp only [put_cons, put_nil, List.set_cons_zero, List.set_cons_succ, List.append_nil]
  refine st_icmp_eq C.cx (tgt := 1250) (dk DL_law_17 6 rfl) (by decide) (fun c_1190 => ?_) (fun c_1190 => ?_)
  · refine st_wide C.cx (k' := 46 + (tt + 1)) (n' := 24379 + 6 * (tt + 1)) (by omega) (by omega) ?_
    exact hk9 s k pp n tx ns lk ld os9 olk9 old9 nx sz rs rl rd zz9 rc9 en9 sn9 nd9 ln9 tl ce la cd ke ty 0 ap ft bo9r ot9r 0 f0 f19r f2 f3 f4 qu9r fr9r by99r fa9r fs9r og ⟨hC, hSv, htl, hn, hcd, hf, hp, hke, hty, ht, Or.inl rfl⟩
  · exact absurd rfl c_1190
set_option maxHeartbeats 8000000 in
set_option maxRecDepth 100000 in
theorem lc_reached {l : Launch} {G : wG} (hlt : l.stackTraces = false) {L : Nat} {xs : Nat → Int32} {P : PT} {nm9 : String} {b K p q1 q2 o o1 o2 v v1 : Nat} {u u1 u2 : Nat → Nat} {t t1 t2 t3 t4 y y1 M : Nat} {A : Nat → Nat} {e : Nat} (C : Cv l G RL cL_law 9 nm9 room_1 (exL b L xs) P) {s : mS} {k : Nat} {pp : Nat → mS} {n : Nat} {tx : Nat → Nat} {ns : Nat → Int32} {lk : Nat → Int32} {ld : Nat → Int32} {os : Nat → Int32} {olk : Nat → Int32} {old : Nat → Int32} {nx : Int32} {sz : Int32} {rs : Nat → Nat → Int32} {rl : Nat → Nat → Int32} {rd : Nat → Nat → Int32} {zz : Int32} {rc : Int32} {en : Nat → Int32} {sn : Nat → Int64} {nd : Nat → Int32} {ln : Nat → Int32} {tl : Int32} {ce : Int32} {la : Int32} {cd : Nat → Int32} {ke : Int32} {ty : Int32} {th : Int32} {ap : Int32} {ft : Int32} {bo : Int32} {ot : Int32} {il : Int32} {f0 : Nat → Int32} {f1 : Nat → Int32} {f2 : Nat → Int32} {f3 : Nat → Int32} {f4 : Nat → Int32} {qu : Nat → Int32} {fr : Nat → Int32} {by9 : Nat → Int32} {fa : Nat → Int32} {fs : Nat → Int32} {og : Nat → Int64} (hI : INV s k pp n tx ns lk ld nx sz rs rl rd tl cd ke ty il f0 f2 f3 qu fr by9 fa fs) {x a1 a2 : Int32} {tt : Nat} (htt : tt < 512) (h1 : vp_in (x + 1) L) (h2 : vp_in (x + 2) L) (e1 : xs (x + 1).toNatClampNeg = a1) (e2 : xs (x + 2).toNatClampNeg = a2) (hk9 : LH P G b K p q1 q2 o o1 o2 v v1 u u1 u2 t t1 t2 t3 t4 y y1 M A e (46 + (tt + 1)) (24379 + 6 * (tt + 1)) x) : P (46 + tt) (24379 + 6 * tt) 1195 [(0, .ref b), (1, .ref K), (2, .ref M), (3, .ref e), (4, .int x)] [] [(K, ob 4 (kF p o v t y)), (p, ob 0 (cR q1 q2 ns)), (q1, aI G 15 lk), (q2, aI G 16 ld), (o, ob 0 (cR o1 o2 os)), (o1, aI G 15 olk), (o2, aI G 16 old), (v, ob 1 (vF v1 nx sz)), (v1, aQ G 6 (fun k => some (u k))), (u 0, ob 0 (cR (u1 0) (u2 0) (rs 0))), (u1 0, aI G 15 (rl 0)), (u2 0, aI G 16 (rd 0)), (u 1, ob 0 (cR (u1 1) (u2 1) (rs 1))), (u1 1, aI G 15 (rl 1)), (u2 1, aI G 16 (rd 1)), (u 2, ob 0 (cR (u1 2) (u2 2) (rs 2))), (u1 2, aI G 15 (rl 2)), (u2 2, aI G 16 (rd 2)), (u 3, ob 0 (cR (u1 3) (u2 3) (rs 3))), (u1 3, aI G 15 (rl 3)), (u2 3, aI G 16 (rd 3)), (u 4, ob 0 (cR (u1 4) (u2 4) (rs 4))), (u1 4, aI G 15 (rl 4)), (u2 4, aI G 16 (rd 4)), (u 5, ob 0 (cR (u1 5) (u2 5) (rs 5))), (u1 5, aI G 15 (rl 5)), (u2 5, aI G 16 (rd 5)), (t, ob 2 (sF t1 t2 t3 t4 zz rc)), (t1, aI G 4624 en), (t2, aJ G 256 sn), (t3, aI G 16 nd), (t4, aI G 16 ln), (y, ob 3 (tF y1 tl ce la)), (y1, aI G 60 cd), (M, ob 5 (mF A ke ty th ap ft bo ot il)), (A 0, aI G 53 f0), (A 1, aI G 53 f1), (A 2, aI G 318 f2), (A 3, aI G 60 f3), (A 4, aI G 48 f4), (A 5, aI G 4624 qu), (A 6, aI G 4624 fr), (A 7, aI G 4624 by9), (A 8, aI G 4624 fa), (A 9, aI G 16 fs), (e, aJ G 1 og)] := by
  obtain ⟨hC, hSv, htl, hn, hcd, hf, hp, hke, hty, ht, hil⟩ := hI
  have hok := hC.1
  have hk : k ≤ 6 := by obtain ⟨j9, -, -, -, h9, -⟩ := hSv; exact h9
  have hsz : sz = nI k := by obtain ⟨j9, -, -, h9, -⟩ := hSv; exact h9
  have hr0 : 46 + tt ≤ room_1.cells ∧ 24379 + 6 * tt ≤ room_1.slots := ⟨by show _ ≤ 601024; omega, by show _ ≤ 7293034; omega⟩
  have hr1 : 46 + tt + 1 ≤ room_1.cells ∧ 24379 + 6 * tt + 6 ≤ room_1.slots := ⟨by show _ ≤ 601024; omega, by show _ ≤ 7293034; omega⟩
  refine st_aload_n C.cx (dk DL_law_17 9 rfl) rfl ?_
  refine st_cV C.cx (k_X5_reached l G hC) mf_X5_reached mi_X5_reached ml_RL_146 (dk DL_law_17 10 rfl) [0, 1, 2, 3, 27, 28, 29, 30, 31] rfl rfl rfl rfl (Nat.le_of_ble_eq_true rfl) rfl rfl ⟨Nat.le_of_ble_eq_true rfl, Nat.le_of_ble_eq_true rfl⟩ hr0 (fun r9 w9 hq9 => ?_)
  obtain ⟨rfl, zz9, rc9, en9, sn9, nd9, ln9, rfl⟩ := hq9
  simp only [put_cons, put_nil, List.set_cons_zero, List.set_cons_succ, List.append_nil]
  refine st_dstore C.cx (dk DL_law_17 11 rfl) (by decide) rfl rfl ?_
  refine st_aload_n C.cx (dk DL_law_17 12 rfl) rfl ?_
  refine st_cV C.cx (k_X6_reached l G hf hok hil) mf_X6_reached mi_X6_reached ml_RL_150 (dk DL_law_17 13 rfl) [34, 35, 40, 41, 42, 43, 44] rfl rfl rfl rfl (Nat.le_of_ble_eq_true rfl) rfl rfl ⟨Nat.le_of_ble_eq_true rfl, Nat.le_of_ble_eq_true rfl⟩ hr0 (fun r8 w8 hq8 => ?_)
  obtain ⟨rfl, bo9r, ot9r, qu9r, fr9r, by99r, fa9r, fs9r, g_1, rfl⟩ := hq8
  simp only [put_cons, put_nil, List.set_cons_zero, List.set_cons_succ, List.append_nil]
  refine st_dstore C.cx (dk DL_law_17 14 rfl) (by decide) rfl rfl ?_
  refine st_dload C.cx (dk DL_law_17 15 rfl) rfl ?_
  refine st_dload C.cx (dk DL_law_17 16 rfl) rfl ?_
  refine st_dcmp C.cx (dk DL_law_17 17 rfl) ?_
  refine st_if_eq C.cx (tgt := 1233) (dk DL_law_17 18 rfl) (by decide) (fun c_1212 => ?_) (fun c_1212 => ?_)
  · refine st_goto C.cx (tgt := 1250) (dk DL_law_17 29 rfl) (by decide) ?_
    refine st_lv C.cx [0, 1, 2, 3, 4] rfl ?_
    refine st_wide C.cx (k' := 46 + (tt + 1)) (n' := 24379 + 6 * (tt + 1)) (by omega) (by omega) ?_
    exact hk9 s k pp n tx ns lk ld os olk old nx sz rs rl rd zz9 rc9 en9 sn9 nd9 ln9 tl ce la cd ke ty 0 ap ft bo9r ot9r 1 f0 f1 f2 f3 f4 qu9r fr9r by99r fa9r fs9r og ⟨hC, hSv, htl, hn, hcd, hf, hp, hke, hty, ht, Or.inr ⟨rfl, g_1⟩⟩
  · exact absurd (shD_num (cnt (fS s) 16) (by have := cnt_le (fS s) 16; omega)) c_1212
set_option maxHeartbeats 8000000 in
set_option maxRecDepth 100000 in
theorem lc_digest {l : Launch} {G : wG} (hlt : l.stackTraces = false) {L : Nat} {xs : Nat → Int32} {P : PT} {nm9 : String} {b K p q1 q2 o o1 o2 v v1 : Nat} {u u1 u2 : Nat → Nat} {t t1 t2 t3 t4 y y1 M : Nat} {A : Nat → Nat} {e : Nat} (C : Cv l G RL cL_law 9 nm9 room_1 (exL b L xs) P) {s : mS} {k : Nat} {pp : Nat → mS} {n : Nat} {tx : Nat → Nat} {ns : Nat → Int32} {lk : Nat → Int32} {ld : Nat → Int32} {os : Nat → Int32} {olk : Nat → Int32} {old : Nat → Int32} {nx : Int32} {sz : Int32} {rs : Nat → Nat → Int32} {rl : Nat → Nat → Int32} {rd : Nat → Nat → Int32} {zz : Int32} {rc : Int32} {en : Nat → Int32} {sn : Nat → Int64} {nd : Nat → Int32} {ln : Nat → Int32} {tl : Int32} {ce : Int32} {la : Int32} {cd : Nat → Int32} {ke : Int32} {ty : Int32} {th : Int32} {ap : Int32} {ft : Int32} {bo : Int32} {ot : Int32} {il : Int32} {f0 : Nat → Int32} {f1 : Nat → Int32} {f2 : Nat → Int32} {f3 : Nat → Int32} {f4 : Nat → Int32} {qu : Nat → Int32} {fr : Nat → Int32} {by9 : Nat → Int32} {fa : Nat → Int32} {fs : Nat → Int32} {og : Nat → Int64} (hI : INV s k pp n tx ns lk ld nx sz rs rl rd tl cd ke ty il f0 f2 f3 qu fr by9 fa fs) {x a1 a2 : Int32} {tt : Nat} (htt : tt < 512) (h1 : vp_in (x + 1) L) (h2 : vp_in (x + 2) L) (e1 : xs (x + 1).toNatClampNeg = a1) (e2 : xs (x + 2).toNatClampNeg = a2) (hk9 : LH P G b K p q1 q2 o o1 o2 v v1 u u1 u2 t t1 t2 t3 t4 y y1 M A e (46 + (tt + 1)) (24379 + 6 * (tt + 1)) x) : P (46 + tt) (24379 + 6 * tt) 1236 [(0, .ref b), (1, .ref K), (2, .ref M), (3, .ref e), (4, .int x)] [] [(K, ob 4 (kF p o v t y)), (p, ob 0 (cR q1 q2 ns)), (q1, aI G 15 lk), (q2, aI G 16 ld), (o, ob 0 (cR o1 o2 os)), (o1, aI G 15 olk), (o2, aI G 16 old), (v, ob 1 (vF v1 nx sz)), (v1, aQ G 6 (fun k => some (u k))), (u 0, ob 0 (cR (u1 0) (u2 0) (rs 0))), (u1 0, aI G 15 (rl 0)), (u2 0, aI G 16 (rd 0)), (u 1, ob 0 (cR (u1 1) (u2 1) (rs 1))), (u1 1, aI G 15 (rl 1)), (u2 1, aI G 16 (rd 1)), (u 2, ob 0 (cR (u1 2) (u2 2) (rs 2))), (u1 2, aI G 15 (rl 2)), (u2 2, aI G 16 (rd 2)), (u 3, ob 0 (cR (u1 3) (u2 3) (rs 3))), (u1 3, aI G 15 (rl 3)), (u2 3, aI G 16 (rd 3)), (u 4, ob 0 (cR (u1 4) (u2 4) (rs 4))), (u1 4, aI G 15 (rl 4)), (u2 4, aI G 16 (rd 4)), (u 5, ob 0 (cR (u1 5) (u2 5) (rs 5))), (u1 5, aI G 15 (rl 5)), (u2 5, aI G 16 (rd 5)), (t, ob 2 (sF t1 t2 t3 t4 zz rc)), (t1, aI G 4624 en), (t2, aJ G 256 sn), (t3, aI G 16 nd), (t4, aI G 16 ln), (y, ob 3 (tF y1 tl ce la)), (y1, aI G 60 cd), (M, ob 5 (mF A ke ty th ap ft bo ot il)), (A 0, aI G 53 f0), (A 1, aI G 53 f1), (A 2, aI G 318 f2), (A 3, aI G 60 f3), (A 4, aI G 48 f4), (A 5, aI G 4624 qu), (A 6, aI G 4624 fr), (A 7, aI G 4624 by9), (A 8, aI G 4624 fa), (A 9, aI G 16 fs), (e, aJ G 1 og)] := by
  obtain ⟨hC, hSv, htl, hn, hcd, hf, hp, hke, hty, ht, hil⟩ := hI
  have hok := hC.1
  have hk : k ≤ 6 := by obtain ⟨j9, -, -, -, h9, -⟩ := hSv; exact h9
  have hsz : sz = nI k := by obtain ⟨j9, -, -, h9, -⟩ := hSv; exact h9
  have hr0 : 46 + tt ≤ room_1.cells ∧ 24379 + 6 * tt ≤ room_1.slots := ⟨by show _ ≤ 601024; omega, by show _ ≤ 7293034; omega⟩
  have hr1 : 46 + tt + 1 ≤ room_1.cells ∧ 24379 + 6 * tt + 6 ≤ room_1.slots := ⟨by show _ ≤ 601024; omega, by show _ ≤ 7293034; omega⟩
  refine st_aload_n C.cx (dk DL_law_17 30 rfl) rfl ?_
  refine st_cV C.cx (k_X5_digest l G hC hsz htl hn hcd) mf_X5_digest mi_X5_digest ml_RL_151 (dk DL_law_17 31 rfl) [0, 1, 2, 3, 4, 5, 6, 7, 27, 28, 29, 30, 31, 32, 33] (hC_cons rfl (hC_cons rfl (hC_cons rfl (hC_cons rfl (hC_cons rfl (hC_cons rfl (hC_cons rfl (hC_cons rfl (hC_cons rfl (hC_cons rfl (hC_cons rfl (hC_cons rfl (hC_cons rfl (hC_cons rfl (hC_cons rfl (hC_nil)))))))))))))))) (by decide +kernel) rfl rfl (Nat.le_of_ble_eq_true rfl) rfl rfl ⟨Nat.le_of_ble_eq_true rfl, Nat.le_of_ble_eq_true rfl⟩ hr0 (fun r9 w9 hq9 => ?_)
  obtain ⟨rfl, os9, olk9, old9, zz9, rc9, en9, sn9, nd9, ln9, rfl⟩ := hq9
  simp only [put_cons, put_nil, List.set_cons_zero, List.set_cons_succ, List.append_nil]
  refine st_aload_n C.cx (dk DL_law_17 32 rfl) rfl ?_
  refine st_cV C.cx (k_X6_digest l G hf hok hil hke hty hn ht) mf_X6_digest mi_X6_digest ml_RL_155 (dk DL_law_17 33 rfl) [34, 35, 36, 38, 40, 41, 42, 43, 44] rfl rfl rfl rfl (Nat.le_of_ble_eq_true rfl) rfl rfl ⟨Nat.le_of_ble_eq_true rfl, Nat.le_of_ble_eq_true rfl⟩ hr0 (fun r8 w8 hq8 => ?_)
  obtain ⟨rfl, bo9r, ot9r, f19r, qu9r, fr9r, by99r, fa9r, fs9r, g_1, rfl⟩ := hq8
  simp only [put_cons, put_nil, List.set_cons_zero, List.set_cons_succ, List.append_nil]
  refine st_lcmp C.cx (dk DL_law_17 34 rfl) ?_
  refine st_if_eq C.cx (tgt := 1250) (dk DL_law_17 35 rfl) (by decide) (fun c_1245 => ?_) (fun c_1245 => ?_)
  · refine st_wide C.cx (k' := 46 + (tt + 1)) (n' := 24379 + 6 * (tt + 1)) (by omega) (by omega) ?_
    exact hk9 s k pp n tx ns lk ld os9 olk9 old9 nx sz rs rl rd zz9 rc9 en9 sn9 nd9 ln9 tl ce la cd ke ty 0 ap ft bo9r ot9r 1 f0 f19r f2 f3 f4 qu9r fr9r by99r fa9r fs9r og ⟨hC, hSv, htl, hn, hcd, hf, hp, hke, hty, ht, Or.inr ⟨rfl, g_1⟩⟩
  · exact absurd ((lg_cmp0 _ _).mpr rfl) c_1245
