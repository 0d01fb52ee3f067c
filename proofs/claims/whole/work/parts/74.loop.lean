/-! the law: its loop -/
theorem lw_gt {L t : Nat} (hL : L ≤ 1536) (ht : t ≤ 1536) : (nI L - 3 < nI t) ↔ L < t + 3 := by
  rw [Int32.lt_iff_toInt_lt, nI_toInt (by omega), Int32.toInt_sub, nI_toInt (by omega)]
  have e3 : (3 : Int32).toInt = 3 := by decide
  rw [e3]
  have e : ((L : Int) - 3).bmod (2 ^ 32) = (L : Int) - 3 := Int.bmod_eq_of_le (by omega) (by omega)
  rw [e]
  omega
set_option maxHeartbeats 8000000 in
set_option maxRecDepth 100000 in
theorem law_step {l : Launch} {G : wG} (hlt : l.stackTraces = false) {L : Nat} {xs : Nat → Int32} {P : PT} {nm9 : String} {b K p q1 q2 o o1 o2 v v1 : Nat} {u u1 u2 : Nat → Nat} {t t1 t2 t3 t4 y y1 M : Nat} {A : Nat → Nat} {e : Nat} (C : Cv l G RL cL_law 9 nm9 room_1 (exL b L xs) P) (hL : L ≤ 1536) (hRl : Rl cL_law P) {s : mS} {k : Nat} {pp : Nat → mS} {n : Nat} {tx : Nat → Nat} {ns : Nat → Int32} {lk : Nat → Int32} {ld : Nat → Int32} {os : Nat → Int32} {olk : Nat → Int32} {old : Nat → Int32} {nx : Int32} {sz : Int32} {rs : Nat → Nat → Int32} {rl : Nat → Nat → Int32} {rd : Nat → Nat → Int32} {zz : Int32} {rc : Int32} {en : Nat → Int32} {sn : Nat → Int64} {nd : Nat → Int32} {ln : Nat → Int32} {tl : Int32} {ce : Int32} {la : Int32} {cd : Nat → Int32} {ke : Int32} {ty : Int32} {th : Int32} {ap : Int32} {ft : Int32} {bo : Int32} {ot : Int32} {il : Int32} {f0 : Nat → Int32} {f1 : Nat → Int32} {f2 : Nat → Int32} {f3 : Nat → Int32} {f4 : Nat → Int32} {qu : Nat → Int32} {fr : Nat → Int32} {by9 : Nat → Int32} {fa : Nat → Int32} {fs : Nat → Int32} {og : Nat → Int64} (hI : INV s k pp n tx ns lk ld nx sz rs rl rd tl cd ke ty il f0 f2 f3 qu fr by9 fa fs) {x : Int32} {tt : Nat} (ht : tt ≤ 512) (hx : x = nI (3 * tt)) (hnx : tt < 512 → LH P G b K p q1 q2 o o1 o2 v v1 u u1 u2 t t1 t2 t3 t4 y y1 M A e (46 + (tt + 1)) (24379 + 6 * (tt + 1)) x) : P (46 + tt) (24379 + 6 * tt) 23 [(0, .ref b), (1, .ref K), (2, .ref M), (3, .ref e), (4, .int x)] [] [(K, ob 4 (kF p o v t y)), (p, ob 0 (cR q1 q2 ns)), (q1, aI G 15 lk), (q2, aI G 16 ld), (o, ob 0 (cR o1 o2 os)), (o1, aI G 15 olk), (o2, aI G 16 old), (v, ob 1 (vF v1 nx sz)), (v1, aQ G 6 (fun k => some (u k))), (u 0, ob 0 (cR (u1 0) (u2 0) (rs 0))), (u1 0, aI G 15 (rl 0)), (u2 0, aI G 16 (rd 0)), (u 1, ob 0 (cR (u1 1) (u2 1) (rs 1))), (u1 1, aI G 15 (rl 1)), (u2 1, aI G 16 (rd 1)), (u 2, ob 0 (cR (u1 2) (u2 2) (rs 2))), (u1 2, aI G 15 (rl 2)), (u2 2, aI G 16 (rd 2)), (u 3, ob 0 (cR (u1 3) (u2 3) (rs 3))), (u1 3, aI G 15 (rl 3)), (u2 3, aI G 16 (rd 3)), (u 4, ob 0 (cR (u1 4) (u2 4) (rs 4))), (u1 4, aI G 15 (rl 4)), (u2 4, aI G 16 (rd 4)), (u 5, ob 0 (cR (u1 5) (u2 5) (rs 5))), (u1 5, aI G 15 (rl 5)), (u2 5, aI G 16 (rd 5)), (t, ob 2 (sF t1 t2 t3 t4 zz rc)), (t1, aI G 4624 en), (t2, aJ G 256 sn), (t3, aI G 16 nd), (t4, aI G 16 ln), (y, ob 3 (tF y1 tl ce la)), (y1, aI G 60 cd), (M, ob 5 (mF A ke ty th ap ft bo ot il)), (A 0, aI G 53 f0), (A 1, aI G 53 f1), (A 2, aI G 318 f2), (A 3, aI G 60 f3), (A 4, aI G 48 f4), (A 5, aI G 4624 qu), (A 6, aI G 4624 fr), (A 7, aI G 4624 by9), (A 8, aI G 4624 fa), (A 9, aI G 16 fs), (e, aJ G 1 og)] := by
  refine st_iload C.cx (dk DL_law_0 13 rfl) rfl ?_
  refine st_aload_n C.cx (dk DL_law_0 14 rfl) rfl ?_
  refine st_slen C (dk DL_law_0 15 rfl) ?_
  refine st_iconst C.cx (v := 3) (dk DL_law_0 16 rfl) (by decide) ?_
  refine st_isub C.cx (dk DL_law_0 17 rfl) ?_
  refine st_icmp_gt C.cx (tgt := 1256) (dk DL_law_0 18 rfl) (by decide) (fun c_29 => ?_) (fun c_29 => ?_)
  · refine st_iconst C.cx (v := 1) (dk DL_law_18 0 rfl) (by decide) ?_
    exact hRl _ _ _ _ _ (by omega) (by omega) (dk DL_law_18 1 rfl)
  · have hb : 3 * tt + 3 ≤ L := by
      have c9 : ¬ (nI L - 3 < nI (3 * tt)) := by rw [← hx]; exact c_29
      have := mt (lw_gt hL (t := 3 * tt) (by omega)).mpr c9; omega
    have htt : tt < 512 := by omega
    have hk9 := hnx htt
    have h0 : vp_in x L := vp_nI hx (by omega) (by omega)
    have h1 : vp_in (x + 1) L := vp_nI (i := 3 * tt + 1) (by rw [hx]; exact nI_add _ 1) (by omega) (by omega)
    have h2 : vp_in (x + 2) L := vp_nI (i := 3 * tt + 2) (by rw [hx]; exact nI_add _ 2) (by omega) (by omega)
    obtain ⟨a0, e0⟩ : ∃ a, xs x.toNatClampNeg = a := ⟨_, rfl⟩
    obtain ⟨a1, e1⟩ : ∃ a, xs (x + 1).toNatClampNeg = a := ⟨_, rfl⟩
    obtain ⟨a2, e2⟩ : ∃ a, xs (x + 2).toNatClampNeg = a := ⟨_, rfl⟩
    refine st_aload_n C.cx (dk DL_law_0 19 rfl) rfl ?_
    refine st_iload C.cx (dk DL_law_0 20 rfl) rfl ?_
    refine st_sld C (dk DL_law_0 21 rfl) h0 e0 ?_
    refine st_bipush C.cx (v := 31) (dk DL_law_0 22 rfl) (by decide) ?_
    refine st_iand C.cx (dk DL_law_0 23 rfl) ?_
    by_cases t_39_0 : (a0 &&& 31) = 0
    · refine st_tswIn C.cx (off := 101) (tgt := 140) (dk DL_law_0 24 rfl) (by rw [t_39_0]; decide) (by rw [t_39_0]; decide) (by rw [t_39_0]; rfl) (by decide) ?_
      exact lc_door hlt C hI htt h1 h2 e1 e2 hk9
    by_cases t_39_1 : (a0 &&& 31) = 1
    · refine st_tswIn C.cx (off := 169) (tgt := 208) (dk DL_law_0 24 rfl) (by rw [t_39_1]; decide) (by rw [t_39_1]; decide) (by rw [t_39_1]; rfl) (by decide) ?_
      exact lc_key hlt C hI htt h1 h2 e1 e2 hk9
    by_cases t_39_2 : (a0 &&& 31) = 2
    · refine st_tswIn C.cx (off := 237) (tgt := 276) (dk DL_law_0 24 rfl) (by rw [t_39_2]; decide) (by rw [t_39_2]; decide) (by rw [t_39_2]; rfl) (by decide) ?_
      exact lc_ladder hlt C hI htt h1 h2 e1 e2 hk9
    by_cases t_39_3 : (a0 &&& 31) = 3
    · refine st_tswIn C.cx (off := 321) (tgt := 360) (dk DL_law_0 24 rfl) (by rw [t_39_3]; decide) (by rw [t_39_3]; decide) (by rw [t_39_3]; rfl) (by decide) ?_
      exact lc_fold hlt C hI htt h1 h2 e1 e2 hk9
    by_cases t_39_4 : (a0 &&& 31) = 4
    · refine st_tswIn C.cx (off := 377) (tgt := 416) (dk DL_law_0 24 rfl) (by rw [t_39_4]; decide) (by rw [t_39_4]; decide) (by rw [t_39_4]; rfl) (by decide) ?_
      exact lc_stand hlt C hI htt h1 h2 e1 e2 hk9
    by_cases t_39_5 : (a0 &&& 31) = 5
    · refine st_tswIn C.cx (off := 433) (tgt := 472) (dk DL_law_0 24 rfl) (by rw [t_39_5]; decide) (by rw [t_39_5]; decide) (by rw [t_39_5]; rfl) (by decide) ?_
      exact lc_step hlt C hI htt h1 h2 e1 e2 hk9
    by_cases t_39_6 : (a0 &&& 31) = 6
    · refine st_tswIn C.cx (off := 489) (tgt := 528) (dk DL_law_0 24 rfl) (by rw [t_39_6]; decide) (by rw [t_39_6]; decide) (by rw [t_39_6]; rfl) (by decide) ?_
      exact lc_walk hlt C hI htt h1 h2 e1 e2 hk9
    by_cases t_39_7 : (a0 &&& 31) = 7
    · refine st_tswIn C.cx (off := 545) (tgt := 584) (dk DL_law_0 24 rfl) (by rw [t_39_7]; decide) (by rw [t_39_7]; decide) (by rw [t_39_7]; rfl) (by decide) ?_
      exact lc_append hlt C hI htt h1 h2 e1 e2 hk9
    by_cases t_39_8 : (a0 &&& 31) = 8
    · refine st_tswIn C.cx (off := 601) (tgt := 640) (dk DL_law_0 24 rfl) (by rw [t_39_8]; decide) (by rw [t_39_8]; decide) (by rw [t_39_8]; rfl) (by decide) ?_
      exact lc_clearBuffer hlt C hI htt h1 h2 e1 e2 hk9
    by_cases t_39_9 : (a0 &&& 31) = 9
    · refine st_tswIn C.cx (off := 614) (tgt := 653) (dk DL_law_0 24 rfl) (by rw [t_39_9]; decide) (by rw [t_39_9]; decide) (by rw [t_39_9]; rfl) (by decide) ?_
      exact lc_firstError hlt C hI htt h1 h2 e1 e2 hk9
    by_cases t_39_10 : (a0 &&& 31) = 10
    · refine st_tswIn C.cx (off := 627) (tgt := 666) (dk DL_law_0 24 rfl) (by rw [t_39_10]; decide) (by rw [t_39_10]; decide) (by rw [t_39_10]; rfl) (by decide) ?_
      exact lc_corridor hlt C hI htt h1 h2 e1 e2 hk9
    by_cases t_39_11 : (a0 &&& 31) = 11
    · refine st_tswIn C.cx (off := 671) (tgt := 710) (dk DL_law_0 24 rfl) (by rw [t_39_11]; decide) (by rw [t_39_11]; decide) (by rw [t_39_11]; rfl) (by decide) ?_
      exact lc_undo hlt C hI htt h1 h2 e1 e2 hk9
    by_cases t_39_12 : (a0 &&& 31) = 12
    · refine st_tswIn C.cx (off := 715) (tgt := 754) (dk DL_law_0 24 rfl) (by rw [t_39_12]; decide) (by rw [t_39_12]; decide) (by rw [t_39_12]; rfl) (by decide) ?_
      exact lc_cell hlt C hI htt h1 h2 e1 e2 hk9
    by_cases t_39_13 : (a0 &&& 31) = 13
    · refine st_tswIn C.cx (off := 783) (tgt := 822) (dk DL_law_0 24 rfl) (by rw [t_39_13]; decide) (by rw [t_39_13]; decide) (by rw [t_39_13]; rfl) (by decide) ?_
      exact lc_walker hlt C hI htt h1 h2 e1 e2 hk9
    by_cases t_39_14 : (a0 &&& 31) = 14
    · refine st_tswIn C.cx (off := 839) (tgt := 878) (dk DL_law_0 24 rfl) (by rw [t_39_14]; decide) (by rw [t_39_14]; decide) (by rw [t_39_14]; rfl) (by decide) ?_
      exact lc_plan hlt C hI htt h1 h2 e1 e2 hk9
    by_cases t_39_15 : (a0 &&& 31) = 15
    · refine st_tswIn C.cx (off := 907) (tgt := 946) (dk DL_law_0 24 rfl) (by rw [t_39_15]; decide) (by rw [t_39_15]; decide) (by rw [t_39_15]; rfl) (by decide) ?_
      exact lc_count hlt C hI htt h1 h2 e1 e2 hk9
    by_cases t_39_16 : (a0 &&& 31) = 16
    · refine st_tswIn C.cx (off := 963) (tgt := 1002) (dk DL_law_0 24 rfl) (by rw [t_39_16]; decide) (by rw [t_39_16]; decide) (by rw [t_39_16]; rfl) (by decide) ?_
      exact lc_refusal hlt C hI htt h1 h2 e1 e2 hk9
    by_cases t_39_17 : (a0 &&& 31) = 17
    · refine st_tswIn C.cx (off := 1019) (tgt := 1058) (dk DL_law_0 24 rfl) (by rw [t_39_17]; decide) (by rw [t_39_17]; decide) (by rw [t_39_17]; rfl) (by decide) ?_
      exact lc_ifDoor hlt C hI htt h1 h2 e1 e2 hk9
    by_cases t_39_18 : (a0 &&& 31) = 18
    · refine st_tswIn C.cx (off := 1087) (tgt := 1126) (dk DL_law_0 24 rfl) (by rw [t_39_18]; decide) (by rw [t_39_18]; decide) (by rw [t_39_18]; rfl) (by decide) ?_
      exact lc_without hlt C hI htt h1 h2 e1 e2 hk9
    by_cases t_39_19 : (a0 &&& 31) = 19
    · refine st_tswIn C.cx (off := 1143) (tgt := 1182) (dk DL_law_0 24 rfl) (by rw [t_39_19]; decide) (by rw [t_39_19]; decide) (by rw [t_39_19]; rfl) (by decide) ?_
      exact lc_bestFold hlt C hI htt h1 h2 e1 e2 hk9
    by_cases t_39_20 : (a0 &&& 31) = 20
    · refine st_tswIn C.cx (off := 1156) (tgt := 1195) (dk DL_law_0 24 rfl) (by rw [t_39_20]; decide) (by rw [t_39_20]; decide) (by rw [t_39_20]; rfl) (by decide) ?_
      exact lc_reached hlt C hI htt h1 h2 e1 e2 hk9
    by_cases t_39_21 : (a0 &&& 31) = 21
    · refine st_tswIn C.cx (off := 1197) (tgt := 1236) (dk DL_law_0 24 rfl) (by rw [t_39_21]; decide) (by rw [t_39_21]; decide) (by rw [t_39_21]; rfl) (by decide) ?_
      exact lc_digest hlt C hI htt h1 h2 e1 e2 hk9
    refine st_tswOut C.cx (tgt := 1250) (dk DL_law_0 24 rfl) (tsw_out 22 (by decide) (by decide) (fun j hj => match j, hj with | 0, _ => t_39_0 | 1, _ => t_39_1 | 2, _ => t_39_2 | 3, _ => t_39_3 | 4, _ => t_39_4 | 5, _ => t_39_5 | 6, _ => t_39_6 | 7, _ => t_39_7 | 8, _ => t_39_8 | 9, _ => t_39_9 | 10, _ => t_39_10 | 11, _ => t_39_11 | 12, _ => t_39_12 | 13, _ => t_39_13 | 14, _ => t_39_14 | 15, _ => t_39_15 | 16, _ => t_39_16 | 17, _ => t_39_17 | 18, _ => t_39_18 | 19, _ => t_39_19 | 20, _ => t_39_20 | 21, _ => t_39_21 | n9 + 22, h9 => absurd h9 (by omega))) (by decide) ?_
    refine st_wide C.cx (k' := 46 + (tt + 1)) (n' := 24379 + 6 * (tt + 1)) (by omega) (by omega) ?_
    exact hk9 s k pp n tx ns lk ld os olk old nx sz rs rl rd zz rc en sn nd ln tl ce la cd ke ty th ap ft bo ot il f0 f1 f2 f3 f4 qu fr by9 fa fs og hI
set_option maxHeartbeats 8000000 in
set_option maxRecDepth 100000 in
theorem law_loop {l : Launch} {G : wG} (hlt : l.stackTraces = false) {L : Nat} {xs : Nat → Int32} {P : PT} {nm9 : String} {b K p q1 q2 o o1 o2 v v1 : Nat} {u u1 u2 : Nat → Nat} {t t1 t2 t3 t4 y y1 M : Nat} {A : Nat → Nat} {e : Nat} (C : Cv l G RL cL_law 9 nm9 room_1 (exL b L xs) P) (hL : L ≤ 1536) (hRl : Rl cL_law P) : ∀ m tt, tt + m = 512 → ∀ (s : mS) (k : Nat) (pp : Nat → mS) (n : Nat) (tx : Nat → Nat) (ns : Nat → Int32) (lk : Nat → Int32) (ld : Nat → Int32) (os : Nat → Int32) (olk : Nat → Int32) (old : Nat → Int32) (nx : Int32) (sz : Int32) (rs : Nat → Nat → Int32) (rl : Nat → Nat → Int32) (rd : Nat → Nat → Int32) (zz : Int32) (rc : Int32) (en : Nat → Int32) (sn : Nat → Int64) (nd : Nat → Int32) (ln : Nat → Int32) (tl : Int32) (ce : Int32) (la : Int32) (cd : Nat → Int32) (ke : Int32) (ty : Int32) (th : Int32) (ap : Int32) (ft : Int32) (bo : Int32) (ot : Int32) (il : Int32) (f0 : Nat → Int32) (f1 : Nat → Int32) (f2 : Nat → Int32) (f3 : Nat → Int32) (f4 : Nat → Int32) (qu : Nat → Int32) (fr : Nat → Int32) (by9 : Nat → Int32) (fa : Nat → Int32) (fs : Nat → Int32) (og : Nat → Int64), INV s k pp n tx ns lk ld nx sz rs rl rd tl cd ke ty il f0 f2 f3 qu fr by9 fa fs → ∀ x : Int32, x = nI (3 * tt) → P (46 + tt) (24379 + 6 * tt) 23 [(0, .ref b), (1, .ref K), (2, .ref M), (3, .ref e), (4, .int x)] [] [(K, ob 4 (kF p o v t y)), (p, ob 0 (cR q1 q2 ns)), (q1, aI G 15 lk), (q2, aI G 16 ld), (o, ob 0 (cR o1 o2 os)), (o1, aI G 15 olk), (o2, aI G 16 old), (v, ob 1 (vF v1 nx sz)), (v1, aQ G 6 (fun k => some (u k))), (u 0, ob 0 (cR (u1 0) (u2 0) (rs 0))), (u1 0, aI G 15 (rl 0)), (u2 0, aI G 16 (rd 0)), (u 1, ob 0 (cR (u1 1) (u2 1) (rs 1))), (u1 1, aI G 15 (rl 1)), (u2 1, aI G 16 (rd 1)), (u 2, ob 0 (cR (u1 2) (u2 2) (rs 2))), (u1 2, aI G 15 (rl 2)), (u2 2, aI G 16 (rd 2)), (u 3, ob 0 (cR (u1 3) (u2 3) (rs 3))), (u1 3, aI G 15 (rl 3)), (u2 3, aI G 16 (rd 3)), (u 4, ob 0 (cR (u1 4) (u2 4) (rs 4))), (u1 4, aI G 15 (rl 4)), (u2 4, aI G 16 (rd 4)), (u 5, ob 0 (cR (u1 5) (u2 5) (rs 5))), (u1 5, aI G 15 (rl 5)), (u2 5, aI G 16 (rd 5)), (t, ob 2 (sF t1 t2 t3 t4 zz rc)), (t1, aI G 4624 en), (t2, aJ G 256 sn), (t3, aI G 16 nd), (t4, aI G 16 ln), (y, ob 3 (tF y1 tl ce la)), (y1, aI G 60 cd), (M, ob 5 (mF A ke ty th ap ft bo ot il)), (A 0, aI G 53 f0), (A 1, aI G 53 f1), (A 2, aI G 318 f2), (A 3, aI G 60 f3), (A 4, aI G 48 f4), (A 5, aI G 4624 qu), (A 6, aI G 4624 fr), (A 7, aI G 4624 by9), (A 8, aI G 4624 fa), (A 9, aI G 16 fs), (e, aJ G 1 og)] := by
  intro m
  induction m with
  | zero =>
    intro tt hm s k pp n tx ns lk ld os olk old nx sz rs rl rd zz rc en sn nd ln tl ce la cd ke ty th ap ft bo ot il f0 f1 f2 f3 f4 qu fr by9 fa fs og hI x hx
    exact law_step hlt C hL hRl hI (by omega) hx (fun h => absurd h (by omega))
  | succ m ih =>
    intro tt hm s k pp n tx ns lk ld os olk old nx sz rs rl rd zz rc en sn nd ln tl ce la cd ke ty th ap ft bo ot il f0 f1 f2 f3 f4 qu fr by9 fa fs og hI x hx
    refine law_step hlt C hL hRl hI (by omega) hx (fun h => ?_)
    intro s8 k8 pp8 n8 tx8 ns8 lk8 ld8 os8 olk8 old8 nx8 sz8 rs8 rl8 rd8 zz8 rc8 en8 sn8 nd8 ln8 tl8 ce8 la8 cd8 ke8 ty8 th8 ap8 ft8 bo8 ot8 il8 f08 f18 f28 f38 f48 qu8 fr8 by98 fa8 fs8 og8 hI9
    refine st_iinc C.cx (dk DL_law_17 38 rfl) rfl (iadd_ofInt _ (3) (3) (by decide)) (by decide) rfl ?_
    refine st_goto C.cx (tgt := 23) (dk DL_law_17 39 rfl) (by decide) ?_
    exact ih (tt + 1) (by omega) s8 k8 pp8 n8 tx8 ns8 lk8 ld8 os8 olk8 old8 nx8 sz8 rs8 rl8 rd8 zz8 rc8 en8 sn8 nd8 ln8 tl8 ce8 la8 cd8 ke8 ty8 th8 ap8 ft8 bo8 ot8 il8 f08 f18 f28 f38 f48 qu8 fr8 by98 fa8 fs8 og8 hI9 (x + 3) (by rw [hx]; exact nI_add _ 3)
