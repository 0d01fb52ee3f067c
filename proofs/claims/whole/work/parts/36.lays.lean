/-! the reference: lays -/
theorem bF_out {g : bT → Nat → Option bT} {t0 : bT} {k : Nat} (hk : k ≤ 4624) (h : (bRun g t0 k).length ≤ k) : bF g t0 = bRun g t0 k := by
  have := bRun_out h (4624 - k)
  rw [show k + (4624 - k) = bMax by rw [bMax_eq]; omega] at this
  exact this
theorem MRel.one {s : mS} (hok : mOk s) {qu fr by9 fa fs : Nat → Int32} (hfa : ∀ j, j < 4624 → fa j = -1) (hfs : ∀ j, j < 16 → fs j = -1) : MRel (bRun (gS s) (t0S s) 0) (upd qu (Int32.toNatClampNeg 0) (nI (emN (t0S s)))) fr by9 (upd fa (nI (emN (t0S s))).toNatClampNeg 0) (upd fs (nI (s 1)).toNatClampNeg (nI (emN (t0S s)))) := by
  have el := emN_lt (t0_v hok)
  have h1 := hok.2.2.1
  rw [nI_clamp (n := emN (t0S s)) (by omega), nI_clamp (n := s 1) (by omega)]
  have one : ∀ (i : Nat) (e : bE), (bRun (gS s) (t0S s) 0)[i]? = some e → i = 0 ∧ e = (t0S s, 0, 0, 0) := by
    intro i e hi
    have h2 : i < 1 := (List.getElem?_eq_some_iff.mp hi).1
    have : i = 0 := by omega
    subst this
    exact ⟨rfl, (Option.some.inj hi).symm⟩
  refine ⟨?_, ?_, ?_, ?_⟩
  · intro i e hi
    obtain ⟨rfl, rfl⟩ := one i e hi
    exact pk_us
  · intro i e hi
    obtain ⟨rfl, rfl⟩ := one i e hi
    exact ⟨pk_us, fun h => absurd h (Nat.lt_irrefl 0)⟩
  · intro x hx hall
    rw [pk_un (fun e => hall (t0S s, 0, 0, 0) (List.mem_singleton.mpr rfl) e.symm)]
    exact hfa x hx
  · intro c hc
    have h3 : fi (bRun (gS s) (t0S s) 0) c = if s 1 = c then some 0 else none := by
      show fi ([] ++ [(t0S s, 0, 0, 0)]) c = _
      rw [fi_app1]
      rfl
    by_cases hcs : c = s 1
    · subst hcs
      rw [if_pos rfl] at h3
      rw [pk_us, fsOf_some h3]
      rfl
    · rw [if_neg (fun e => hcs e.symm)] at h3
      rw [pk_un hcs, fsOf_none h3]
      exact hfs c hc
set_option maxHeartbeats 4000000 in
set_option maxRecDepth 100000 in
theorem k_X6_lays (l : Launch) (G : wG) {M : Nat} {A : Nat → Nat} {ke ty th ap ft bo ot il : Int32} {a : Nat} {f : Nat → Int32} {s : mS} {qu fr by9 fa fs : Nat → Int32} (hf : hd53 f s) (hok : mOk s) : Con0 l G yX6_lays cX6_lays 6 none 5 [.ref M, .ref a] [(M, ob 5 (mF A ke ty th ap ft bo ot il)), (A 5, aI G 4624 qu), (A 6, aI G 4624 fr), (A 7, aI G 4624 by9), (A 8, aI G 4624 fa), (A 9, aI G 16 fs), (a, aI G 53 f)] (fun r w => r = none ∧ ∃ qu9 fr9 by99 fa9 fs9 : Nat → Int32, MRel (fS s) qu9 fr9 by99 fa9 fs9 ∧ w = [(M, ob 5 (mF A ke ty th ap ft (nI (b1S s)) (nI (b2S s)) il)), (A 5, aI G 4624 qu9), (A 6, aI G 4624 fr9), (A 7, aI G 4624 by99), (A 8, aI G 4624 fa9), (A 9, aI G 16 fs9), (a, aI G 53 f)]) := by
  refine Con.mk (by decide +kernel) (Nat.le_of_ble_eq_true rfl) (fun P C Rr => ?_)
  obtain ⟨l1, l2, l12⟩ := bS_le hok
  have hlen := lenS hok
  have hk0 := okS hok
  have outer : ∀ (m k : Nat) (x2 x3 : Int32) (qu fr by9 fa fs : Nat → Int32), k + m = 4624 → x3 = nI k → x2 = nI (bRun (gS s) (t0S s) k).length → MRel (bRun (gS s) (t0S s) k) qu fr by9 fa fs → P 0 0 84 [(0, .ref M), (1, .ref a), (2, .int x2), (3, .int x3)] [] [(M, ob 5 (mF A ke ty th ap ft (nI (b1S s)) (nI (b2S s)) il)), (A 5, aI G 4624 qu), (A 6, aI G 4624 fr), (A 7, aI G 4624 by9), (A 8, aI G 4624 fa), (A 9, aI G 16 fs), (a, aI G 53 f)] := by
    intro m
    induction m with
    | zero =>
      intro k x2 x3 qu fr by9 fa fs hk hx3 hx2 hM
      have hkl := hlen k
      refine st_iload_n C (dk DX6_lays_1 13 rfl) rfl ?_
      refine st_iload_n C (dk DX6_lays_1 14 rfl) rfl ?_
      refine st_icmp_ge C (tgt := 237) (dk DX6_lays_1 15 rfl) (by decide) (fun c_86 => ?_) (fun c_86 => ?_)
      · refine Rr 0 0 _ _ _ _ _ _ (Nat.zero_le _) (Nat.zero_le _) (dk DX6_lays_3 17 rfl) (.inl ⟨rfl, rfl, rfl, rfl⟩) rfl ?_
        have hF : bF (gS s) (t0S s) = bRun (gS s) (t0S s) k := bF_out (by omega) (by omega)
        exact ⟨rfl, rfl, qu, fr, by9, fa, fs, by unfold fS; rw [hF]; exact hM, rfl⟩
      · exact absurd ((ge_nI (a := (bRun (gS s) (t0S s) k).length) (i := k) (by omega) (by omega) hx2 hx3).mpr (by omega)) c_86
    | succ m ihO =>
      intro k x2 x3 qu fr by9 fa fs hk hx3 hx2 hM
      have hlk := hlen k
      refine st_iload_n C (dk DX6_lays_1 13 rfl) rfl ?_
      refine st_iload_n C (dk DX6_lays_1 14 rfl) rfl ?_
      refine st_icmp_ge C (tgt := 237) (dk DX6_lays_1 15 rfl) (by decide) (fun c_86 => ?_) (fun c_86 => ?_)
      · refine Rr 0 0 _ _ _ _ _ _ (Nat.zero_le _) (Nat.zero_le _) (dk DX6_lays_3 17 rfl) (.inl ⟨rfl, rfl, rfl, rfl⟩) rfl ?_
        have hkl := (ge_nI (a := (bRun (gS s) (t0S s) k).length) (i := k) (by omega) (by omega) hx2 hx3).mp c_86
        have hF : bF (gS s) (t0S s) = bRun (gS s) (t0S s) k := bF_out (by omega) (by omega)
        exact ⟨rfl, rfl, qu, fr, by9, fa, fs, by unfold fS; rw [hF]; exact hM, rfl⟩
      · have hkl : k < (bRun (gS s) (t0S s) k).length := by
          have h9 := mt (ge_nI (a := (bRun (gS s) (t0S s) k).length) (i := k) (by omega) (by omega) hx2 hx3).mpr c_86
          omega
        obtain ⟨e0, he0⟩ : ∃ e, (bRun (gS s) (t0S s) k)[k]? = some e := ⟨_, List.getElem?_eq_getElem hkl⟩
        have hVe : vS s e0.1 := (hk0 k).2.1 e0 (List.mem_of_getElem? he0)
        subst hx3
        have inner : ∀ (m st : Nat) (x2 x4 : Int32) (qu fr by9 fa fs : Nat → Int32), st + m = 5 → x4 = nI st → x2 = nI (bRow (gS s) (bRun (gS s) (t0S s) k) k st).length → MRel (bRow (gS s) (bRun (gS s) (t0S s) k) k st) qu fr by9 fa fs → P 0 0 92 [(0, .ref M), (1, .ref a), (2, .int x2), (3, .int (nI k)), (4, .int x4)] [] [(M, ob 5 (mF A ke ty th ap ft (nI (b1S s)) (nI (b2S s)) il)), (A 5, aI G 4624 qu), (A 6, aI G 4624 fr), (A 7, aI G 4624 by9), (A 8, aI G 4624 fa), (A 9, aI G 16 fs), (a, aI G 53 f)] := by
          intro m
          induction m with
          | zero =>
            intro st x2 x4 qu fr by9 fa fs hs hx4 hx2 hM
            obtain rfl : st = 5 := by omega
            refine st_iload C (dk DX6_lays_1 18 rfl) rfl ?_
            refine st_iconst C (v := 5) (dk DX6_lays_1 19 rfl) (by decide) ?_
            refine st_icmp_ge C (tgt := 231) (dk DX6_lays_1 20 rfl) (by decide) (fun c_95 => ?_) (fun c_95 => ?_)
            · refine st_iinc C (dk DX6_lays_3 15 rfl) rfl (iadd_ofInt _ (1) (1) (by decide)) (by decide) rfl ?_
              refine st_goto C (tgt := 84) (dk DX6_lays_3 16 rfl) (by decide) ?_
              refine st_lv C [0, 1, 2, 3] rfl ?_
              exact ihO (k + 1) _ _ _ _ _ _ _ (by omega) (nI_1 k) hx2 hM
            · exact absurd ((ge_nI (a := 5) (i := 5) (by decide) (by decide) rfl hx4).mpr (Nat.le_refl _)) c_95
          | succ m ih =>
            intro st x2 x4 qu fr by9 fa fs hs hx4 hx2 hM
            subst hx4
            have hrow := (hk0 k).row (gS_cl hok) (k := k) st (by omega)
            have hrl := hrow.len vM_len
            have hekR : (bRow (gS s) (bRun (gS s) (t0S s) k) k st)[k]? = some e0 := by obtain ⟨Z, hZ⟩ := bRow_ext (gS s) (bRun (gS s) (t0S s) k) k st; rw [hZ]; exact getElem?_app he0
            have hqk : qu (nI k).toNatClampNeg = nI (emN e0.1) := by rw [nI_clamp (by omega)]; exact hM.1 k e0 hekR
            have hd30 : ∀ (i : Nat) (e : bE), (bRow (gS s) (bRun (gS s) (t0S s) k) k st)[i]? = some e → e.2.2.2 < 2 ^ 30 := fun i e hi => by
              have h8 := dst_le hrow (i + 1) i (by omega) (List.getElem?_eq_some_iff.mp hi).1
              unfold dst at h8
              rw [eAt_get hi] at h8
              have := (List.getElem?_eq_some_iff.mp hi).1
              omega
            have hbe : ∀ (i : Nat) (e : bE), (bRow (gS s) (bRun (gS s) (t0S s) k) k st)[i]? = some e → e.2.2.1 < (bRow (gS s) (bRun (gS s) (t0S s) k) k st).length := fun i e hi => by
              by_cases h0 : 0 < i
              · obtain ⟨b, b1, b2, -⟩ := hrow.2.2.2 i e hi h0
                have := (List.getElem?_eq_some_iff.mp hi).1
                omega
              · have : i = 0 := by omega
                subst this
                rw [hrow.2.2.1] at hi
                cases hi
                exact (List.getElem?_eq_some_iff.mp hrow.2.2.1).1
            refine st_iload C (dk DX6_lays_1 18 rfl) rfl ?_
            refine st_iconst C (v := 5) (dk DX6_lays_1 19 rfl) (by decide) ?_
            refine st_icmp_ge C (tgt := 231) (dk DX6_lays_1 20 rfl) (by decide) (fun c_95 => ?_) (fun c_95 => ?_)
            · exact absurd ((ge_nI (a := 5) (i := st) (by decide) (by omega) rfl rfl).mp c_95) (by omega)
            · refine st_aload_n C (dk DX6_lays_1 21 rfl) rfl ?_
              refine st_aload_n C (dk DX6_lays_1 22 rfl) rfl ?_
              refine st_aload_n C (dk DX6_lays_1 23 rfl) rfl ?_
              refine st_get C fl_RX6_25 (dk DX6_lays_1 24 rfl) 0 rfl rfl ?_
              refine st_iload_n C (dk DX6_lays_1 25 rfl) rfl ?_
              refine st_iald C (dk DX6_lays_1 26 rfl) 1 rfl (vp_in_nI (by omega) (by decide)) ?_
              rw [hqk]
              refine st_iload C (dk DX6_lays_1 27 rfl) rfl ?_
              refine st_cV C (k_X6_behind l G hf hok l1 l2 rfl hVe rfl (by omega : st < 5)) mf_X6_behind mi_X6_behind ml_RX6_95 (dk DX6_lays_1 28 rfl) [0, 6] rfl rfl rfl rfl (Nat.le_of_ble_eq_true rfl) rfl rfl ⟨Nat.le_of_ble_eq_true rfl, Nat.le_of_ble_eq_true rfl⟩ ⟨Nat.zero_le _, Nat.zero_le _⟩ (fun r9 w9 hq9 => ?_)
              obtain ⟨rfl, rfl⟩ := hq9
              cases hg : gM s (b1S s) (b2S s) e0.1 st with
              | none =>
                refine st_istore C (dk DX6_lays_1 29 rfl) (by decide) rfl ?_
                refine st_iload C (dk DX6_lays_1 30 rfl) rfl ?_
                refine st_iconst C (v := -1) (dk DX6_lays_1 31 rfl) (by decide) ?_
                refine st_icmp_eq C (tgt := 225) (dk DX6_lays_1 32 rfl) (by decide) (fun c_116 => ?_) (fun c_116 => ?_)
                · refine st_iinc C (dk DX6_lays_3 13 rfl) rfl (iadd_ofInt _ (1) (1) (by decide)) (by decide) rfl ?_
                  refine st_goto C (tgt := 92) (dk DX6_lays_3 14 rfl) (by decide) ?_
                  refine st_lv C [0, 1, 2, 3, 4] rfl ?_
                  exact ih (st + 1) _ _ _ _ _ _ _ (by omega) (nI_1 st) (by rw [bRow_none (g := gS s) he0 hg]; exact hx2) (by rw [bRow_none (g := gS s) he0 hg]; exact hM)
                · exact absurd rfl c_116
              | some u =>
                rw [show gI (some u) = nI (emN u) from rfl]
                have hu : vM (b1S s) (b2S s) u := gS_cl hok e0.1 st u hVe (by omega) hg
                have hul := emN_lt hu
                have huc : u.1 < 16 := hu.1
                have hvu : vp_in (nI (emN u)) 4624 := vp_in_nI hul (by decide)
                have hfar := hM.far (hrow.2.1) hd30 hu
                have hdiv : nI (emN u) / 289 = nI u.1 := by rw [show (289 : Int32) = nI 289 from rfl, pk_div (by omega) (by decide) (by decide)]; congr 1; have := hu.2.1; have := hu.2.2.1; unfold emN; omega
                have hve0 : vp_in (nI (emN e0.1)) 4624 := vp_in_nI (emN_lt hVe) (by decide)
                have hfk : fa (nI (emN e0.1)).toNatClampNeg = nI e0.2.2.2 := by rw [nI_clamp (by have := emN_lt hVe; omega)]; exact (hM.2.1 k e0 hekR).1
                have hvc : vp_in (nI u.1) 16 := vp_in_nI huc (by decide)
                have hvk : vp_in (nI k) 4624 := vp_in_nI (by omega) (by decide)
                refine st_istore C (dk DX6_lays_1 29 rfl) (by decide) rfl ?_
                refine st_iload C (dk DX6_lays_1 30 rfl) rfl ?_
                refine st_iconst C (v := -1) (dk DX6_lays_1 31 rfl) (by decide) ?_
                refine st_icmp_eq C (tgt := 225) (dk DX6_lays_1 32 rfl) (by decide) (fun c_116 => ?_) (fun c_116 => ?_)
                · exact absurd c_116 (nI_m1 (by omega))
                · refine st_aload_n C (dk DX6_lays_1 33 rfl) rfl ?_
                  refine st_get C fl_RX6_34 (dk DX6_lays_1 34 rfl) 0 rfl rfl ?_
                  refine st_iload C (dk DX6_lays_1 35 rfl) rfl ?_
                  refine st_iald C (dk DX6_lays_1 36 rfl) 4 rfl hvu ?_
                  refine st_iconst C (v := -1) (dk DX6_lays_1 37 rfl) (by decide) ?_
                  refine st_icmp_ne C (tgt := 225) (dk DX6_lays_1 38 rfl) (by decide) (fun c_127 => ?_) (fun c_127 => ?_)
                  · refine st_iinc C (dk DX6_lays_3 13 rfl) rfl (iadd_ofInt _ (1) (1) (by decide)) (by decide) rfl ?_
                    refine st_goto C (tgt := 92) (dk DX6_lays_3 14 rfl) (by decide) ?_
                    refine st_lv C [0, 1, 2, 3, 4] rfl ?_
                    have hin : u ∈ (bRow (gS s) (bRun (gS s) (t0S s) k) k st).map (·.1) := by
                      by_cases h : u ∈ (bRow (gS s) (bRun (gS s) (t0S s) k) k st).map (·.1)
                      · exact h
                      · exact absurd (by rw [nI_clamp (by omega)]; exact hfar.mpr h) c_127
                    have hb9 : bRow (gS s) (bRun (gS s) (t0S s) k) k (st + 1) = bRow (gS s) (bRun (gS s) (t0S s) k) k st := by rw [bRow_some (g := gS s) he0 hg]; unfold bAdd; rw [if_pos hin]
                    exact ih (st + 1) _ _ _ _ _ _ _ (by omega) (nI_1 st) (by rw [hb9]; exact hx2) (by rw [hb9]; exact hM)
                  · have hn : u ∉ (bRow (gS s) (bRun (gS s) (t0S s) k) k st).map (·.1) := hfar.mp (by rw [nI_clamp (by omega)] at c_127; exact c_127)
                    have hb9 : bRow (gS s) (bRun (gS s) (t0S s) k) k (st + 1) = bRow (gS s) (bRun (gS s) (t0S s) k) k st ++ [(u, st, k, e0.2.2.2 + 1)] := by rw [bRow_some (g := gS s) he0 hg]; unfold bAdd; rw [if_neg hn]
                    have hQ : (bRow (gS s) (bRun (gS s) (t0S s) k) k st).length < 4624 := by
                      have h9 := ((hk0 k).row (gS_cl hok) (k := k) (st + 1) (by omega)).len vM_len
                      rw [hb9, List.length_append] at h9
                      simp at h9
                      omega
                    refine st_aload_n C (dk DX6_lays_1 39 rfl) rfl ?_
                    refine st_get C fl_RX6_34 (dk DX6_lays_2 0 rfl) 0 rfl rfl ?_
                    refine st_iload C (dk DX6_lays_2 1 rfl) rfl ?_
                    refine st_aload_n C (dk DX6_lays_2 2 rfl) rfl ?_
                    refine st_get C fl_RX6_34 (dk DX6_lays_2 3 rfl) 0 rfl rfl ?_
                    refine st_aload_n C (dk DX6_lays_2 4 rfl) rfl ?_
                    refine st_get C fl_RX6_25 (dk DX6_lays_2 5 rfl) 0 rfl rfl ?_
                    refine st_iload_n C (dk DX6_lays_2 6 rfl) rfl ?_
                    refine st_iald C (dk DX6_lays_2 7 rfl) 1 rfl hvk ?_
                    rw [hqk]
                    refine st_iald C (dk DX6_lays_2 8 rfl) 4 rfl hve0 ?_
                    rw [hfk]
                    refine st_iconst C (v := 1) (dk DX6_lays_2 9 rfl) (by decide) ?_
                    refine st_iadd C (dk DX6_lays_2 10 rfl) ?_
                    refine st_iast C (dk DX6_lays_2 11 rfl) 4 rfl hvu ?_
                    refine st_aload_n C (dk DX6_lays_2 12 rfl) rfl ?_
                    refine st_get C fl_RX6_28 (dk DX6_lays_2 13 rfl) 0 rfl rfl ?_
                    refine st_iload C (dk DX6_lays_2 14 rfl) rfl ?_
                    refine st_aload_n C (dk DX6_lays_2 15 rfl) rfl ?_
                    refine st_get C fl_RX6_25 (dk DX6_lays_2 16 rfl) 0 rfl rfl ?_
                    refine st_iload_n C (dk DX6_lays_2 17 rfl) rfl ?_
                    refine st_iald C (dk DX6_lays_2 18 rfl) 1 rfl hvk ?_
                    rw [hqk]
                    refine st_iast C (dk DX6_lays_2 19 rfl) 2 rfl hvu ?_
                    refine st_aload_n C (dk DX6_lays_2 20 rfl) rfl ?_
                    refine st_get C fl_RX6_31 (dk DX6_lays_2 21 rfl) 0 rfl rfl ?_
                    refine st_iload C (dk DX6_lays_2 22 rfl) rfl ?_
                    refine st_iload C (dk DX6_lays_2 23 rfl) rfl ?_
                    refine st_iast C (dk DX6_lays_2 24 rfl) 3 rfl hvu ?_
                    refine st_aload_n C (dk DX6_lays_2 25 rfl) rfl ?_
                    refine st_get C fl_RX6_37 (dk DX6_lays_2 26 rfl) 0 rfl rfl ?_
                    refine st_iload C (dk DX6_lays_2 27 rfl) rfl ?_
                    refine st_sipush C (v := 289) (dk DX6_lays_2 28 rfl) (by decide) ?_
                    refine st_idiv C (dk DX6_lays_2 29 rfl) (by decide) ?_
                    rw [hdiv]
                    refine st_aload_n C (dk DX6_lays_2 30 rfl) rfl ?_
                    refine st_get C fl_RX6_37 (dk DX6_lays_2 31 rfl) 0 rfl rfl ?_
                    refine st_iload C (dk DX6_lays_2 32 rfl) rfl ?_
                    refine st_sipush C (v := 289) (dk DX6_lays_2 33 rfl) (by decide) ?_
                    refine st_idiv C (dk DX6_lays_2 34 rfl) (by decide) ?_
                    rw [hdiv]
                    refine st_iald C (dk DX6_lays_2 35 rfl) 5 rfl hvc ?_
                    refine st_iconst C (v := -1) (dk DX6_lays_2 36 rfl) (by decide) ?_
                    refine st_icmp_ne C (tgt := 202) (dk DX6_lays_2 37 rfl) (by decide) (fun c_194 => ?_) (fun c_194 => ?_)
                    · refine st_aload_n C (dk DX6_lays_3 0 rfl) rfl ?_
                      refine st_get C fl_RX6_37 (dk DX6_lays_3 1 rfl) 0 rfl rfl ?_
                      refine st_iload C (dk DX6_lays_3 2 rfl) rfl ?_
                      refine st_sipush C (v := 289) (dk DX6_lays_3 3 rfl) (by decide) ?_
                      refine st_idiv C (dk DX6_lays_3 4 rfl) (by decide) ?_
                      rw [hdiv]
                      refine st_iald C (dk DX6_lays_3 5 rfl) 5 rfl hvc ?_
                      refine st_iast C (dk DX6_lays_3 6 rfl) 5 rfl hvc ?_
                      refine st_aload_n C (dk DX6_lays_3 7 rfl) rfl ?_
                      refine st_get C fl_RX6_25 (dk DX6_lays_3 8 rfl) 0 rfl rfl ?_
                      refine st_iload_n C (dk DX6_lays_3 9 rfl) rfl ?_
                      refine st_iload C (dk DX6_lays_3 10 rfl) rfl ?_
                      refine st_iast C (dk DX6_lays_3 11 rfl) 1 rfl (vp_nI hx2 hQ (by decide)) ?_
                      refine st_iinc C (dk DX6_lays_3 12 rfl) rfl (iadd_ofInt _ (1) (1) (by decide)) (by decide) rfl ?_
                      refine st_iinc C (dk DX6_lays_3 13 rfl) rfl (iadd_ofInt _ (1) (1) (by decide)) (by decide) rfl ?_
                      refine st_goto C (tgt := 92) (dk DX6_lays_3 14 rfl) (by decide) ?_
                      refine st_lv C [0, 1, 2, 3, 4] rfl ?_
                      exact ih (st + 1) _ _ _ _ _ _ _ (by omega) (nI_1 st) (by rw [hb9, List.length_append]; rw [hx2, nI_1]; rfl) (by rw [hb9]; exact MRel.add hM hbe hrow.2.1 hQ hu hn hekR hx2 (by rw [if_neg (by rw [nI_clamp (by omega)] at c_194; exact c_194), nI_clamp (by omega)]))
                    · refine st_iload C (dk DX6_lays_2 38 rfl) rfl ?_
                      refine st_goto C (tgt := 213) (dk DX6_lays_2 39 rfl) (by decide) ?_
                      refine st_iast C (dk DX6_lays_3 6 rfl) 5 rfl hvc ?_
                      refine st_aload_n C (dk DX6_lays_3 7 rfl) rfl ?_
                      refine st_get C fl_RX6_25 (dk DX6_lays_3 8 rfl) 0 rfl rfl ?_
                      refine st_iload_n C (dk DX6_lays_3 9 rfl) rfl ?_
                      refine st_iload C (dk DX6_lays_3 10 rfl) rfl ?_
                      refine st_iast C (dk DX6_lays_3 11 rfl) 1 rfl (vp_nI hx2 hQ (by decide)) ?_
                      refine st_iinc C (dk DX6_lays_3 12 rfl) rfl (iadd_ofInt _ (1) (1) (by decide)) (by decide) rfl ?_
                      refine st_iinc C (dk DX6_lays_3 13 rfl) rfl (iadd_ofInt _ (1) (1) (by decide)) (by decide) rfl ?_
                      refine st_goto C (tgt := 92) (dk DX6_lays_3 14 rfl) (by decide) ?_
                      refine st_lv C [0, 1, 2, 3, 4] rfl ?_
                      exact ih (st + 1) _ _ _ _ _ _ _ (by omega) (nI_1 st) (by rw [hb9, List.length_append]; rw [hx2, nI_1]; rfl) (by rw [hb9]; exact MRel.add hM hbe hrow.2.1 hQ hu hn hekR hx2 (by rw [if_pos (by rw [nI_clamp (by omega)] at c_194; exact c_194)]))
        refine st_iconst C (v := 0) (dk DX6_lays_1 16 rfl) (by decide) ?_
        refine st_istore C (dk DX6_lays_1 17 rfl) (by decide) rfl ?_
        exact inner 5 0 _ _ _ _ _ _ _ (by omega) rfl hx2 hM
  have K43 : ∀ (x : Int32) (qu fr by9 fa fs : Nat → Int32), (∀ j, j < 4624 → fa j = -1) → (∀ j, j < 16 → fs j = -1) → P 0 0 43 [(0, .ref M), (1, .ref a), (2, .int x)] [] [(M, ob 5 (mF A ke ty th ap ft bo ot il)), (A 5, aI G 4624 qu), (A 6, aI G 4624 fr), (A 7, aI G 4624 by9), (A 8, aI G 4624 fa), (A 9, aI G 16 fs), (a, aI G 53 f)] := by
    intro x qu fr by9 fa fs hfa hfs
    refine st_iconst C (v := 1) (dk DX6_lays_0 24 rfl) (by decide) ?_
    refine st_istore_n C (dk DX6_lays_0 25 rfl) (by decide) rfl ?_
    refine st_aload_n C (dk DX6_lays_0 26 rfl) rfl ?_
    refine st_get C fl_RX6_25 (dk DX6_lays_0 27 rfl) 0 rfl rfl ?_
    refine st_iconst C (v := 0) (dk DX6_lays_0 28 rfl) (by decide) ?_
    refine st_aload_n C (dk DX6_lays_0 29 rfl) rfl ?_
    refine st_aload_n C (dk DX6_lays_0 30 rfl) rfl ?_
    refine st_cV C (k_X6_begins l G hf hok) mf_X6_begins mi_X6_begins ml_RX6_91 (dk DX6_lays_0 31 rfl) [0, 6] rfl rfl rfl rfl (Nat.le_of_ble_eq_true rfl) rfl rfl ⟨Nat.le_of_ble_eq_true rfl, Nat.le_of_ble_eq_true rfl⟩ ⟨Nat.zero_le _, Nat.zero_le _⟩ (fun r9 w9 hq9 => ?_)
    obtain ⟨rfl, rfl⟩ := hq9
    rw [show nI (emN (s 1, (bgnN s 16).2.1, (bgnN s 16).2.2.2)) = nI (emN (t0S s)) from rfl]
    refine st_iast C (dk DX6_lays_0 32 rfl) 1 rfl (vp_nI (show (0 : Int32) = nI 0 from rfl) (by decide) (by decide)) ?_
    have hq0 : upd qu (Int32.toNatClampNeg 0) (nI (emN (t0S s))) (Int32.toNatClampNeg 0) = nI (emN (t0S s)) := pk_us
    have e0l := emN_lt (t0_v hok)
    have hpl : f (Int32.toNatClampNeg 1) = nI (s 1) := hf.at (x := 1) (j := 1) rfl (by decide)
    refine st_aload_n C (dk DX6_lays_0 33 rfl) rfl ?_
    refine st_get C fl_RX6_34 (dk DX6_lays_0 34 rfl) 0 rfl rfl ?_
    refine st_aload_n C (dk DX6_lays_0 35 rfl) rfl ?_
    refine st_get C fl_RX6_25 (dk DX6_lays_0 36 rfl) 0 rfl rfl ?_
    refine st_iconst C (v := 0) (dk DX6_lays_0 37 rfl) (by decide) ?_
    refine st_iald C (dk DX6_lays_0 38 rfl) 1 rfl (vp_nI (show (0 : Int32) = nI 0 from rfl) (by decide) (by decide)) ?_
    rw [hq0]
    refine st_iconst C (v := 0) (dk DX6_lays_0 39 rfl) (by decide) ?_
    refine st_iast C (dk DX6_lays_1 0 rfl) 4 rfl (vp_in_nI e0l (by decide)) ?_
    refine st_aload_n C (dk DX6_lays_1 1 rfl) rfl ?_
    refine st_get C fl_RX6_37 (dk DX6_lays_1 2 rfl) 0 rfl rfl ?_
    refine st_aload_n C (dk DX6_lays_1 3 rfl) rfl ?_
    refine st_iconst C (v := 1) (dk DX6_lays_1 4 rfl) (by decide) ?_
    refine st_iald C (dk DX6_lays_1 5 rfl) 6 rfl (vp_nI (show (1 : Int32) = nI 1 from rfl) (by decide) (by decide)) ?_
    rw [hpl]
    refine st_aload_n C (dk DX6_lays_1 6 rfl) rfl ?_
    refine st_get C fl_RX6_25 (dk DX6_lays_1 7 rfl) 0 rfl rfl ?_
    refine st_iconst C (v := 0) (dk DX6_lays_1 8 rfl) (by decide) ?_
    refine st_iald C (dk DX6_lays_1 9 rfl) 1 rfl (vp_nI (show (0 : Int32) = nI 0 from rfl) (by decide) (by decide)) ?_
    rw [hq0]
    refine st_iast C (dk DX6_lays_1 10 rfl) 5 rfl (vp_in_nI hok.2.2.1 (by decide)) ?_
    refine st_iconst C (v := 0) (dk DX6_lays_1 11 rfl) (by decide) ?_
    refine st_istore_n C (dk DX6_lays_1 12 rfl) (by decide) rfl ?_
    exact outer 4624 0 _ _ _ _ _ _ _ (by omega) rfl rfl (MRel.one hok hfa hfs)
  have loop2 : ∀ (m i : Nat) (x : Int32) (qu fr by9 fa fs : Nat → Int32), i + m = 16 → x = nI i → (∀ j, j < 4624 → fa j = -1) → (∀ j, j < i → fs j = -1) → P 0 0 24 [(0, .ref M), (1, .ref a), (2, .int x)] [] [(M, ob 5 (mF A ke ty th ap ft bo ot il)), (A 5, aI G 4624 qu), (A 6, aI G 4624 fr), (A 7, aI G 4624 by9), (A 8, aI G 4624 fa), (A 9, aI G 16 fs), (a, aI G 53 f)] := by
    intro m
    induction m with
    | zero =>
      intro i x qu fr by9 fa fs hi hx hfa hfs
      obtain rfl : i = 16 := by omega
      refine st_iload_n C (dk DX6_lays_0 14 rfl) rfl ?_
      refine st_bipush C (v := 16) (dk DX6_lays_0 15 rfl) (by decide) ?_
      refine st_icmp_ge C (tgt := 43) (dk DX6_lays_0 16 rfl) (by decide) (fun c_27 => ?_) (fun c_27 => ?_)
      · exact K43 _ _ _ _ _ _ hfa hfs
      · exact absurd ((ge_nI (a := 16) (i := 16) (by decide) (by decide) rfl hx).mpr (Nat.le_refl _)) c_27
    | succ m ih =>
      intro i x qu fr by9 fa fs hi hx hfa hfs
      refine st_iload_n C (dk DX6_lays_0 14 rfl) rfl ?_
      refine st_bipush C (v := 16) (dk DX6_lays_0 15 rfl) (by decide) ?_
      refine st_icmp_ge C (tgt := 43) (dk DX6_lays_0 16 rfl) (by decide) (fun c_27 => ?_) (fun c_27 => ?_)
      · exact absurd ((ge_nI (a := 16) (i := i) (by decide) (by omega) rfl hx).mp c_27) (by omega)
      · refine st_aload_n C (dk DX6_lays_0 17 rfl) rfl ?_
        refine st_get C fl_RX6_37 (dk DX6_lays_0 18 rfl) 0 rfl rfl ?_
        refine st_iload_n C (dk DX6_lays_0 19 rfl) rfl ?_
        refine st_iconst C (v := -1) (dk DX6_lays_0 20 rfl) (by decide) ?_
        refine st_iast C (dk DX6_lays_0 21 rfl) 5 rfl (vp_nI hx (by omega : i < 16) (by decide)) ?_
        refine st_iinc C (dk DX6_lays_0 22 rfl) rfl (iadd_ofInt _ (1) (1) (by decide)) (by decide) rfl ?_
        refine st_goto C (tgt := 24) (dk DX6_lays_0 23 rfl) (by decide) ?_
        exact ih (i + 1) _ _ _ _ _ _ (by omega) (up_nI hx) hfa (upd_cp (g := fun _ => -1) hx (by omega) hfs)
  have loop1 : ∀ (m i : Nat) (x : Int32) (qu fr by9 fa fs : Nat → Int32), i + m = 4624 → x = nI i → (∀ j, j < i → fa j = -1) → P 0 0 2 [(0, .ref M), (1, .ref a), (2, .int x)] [] [(M, ob 5 (mF A ke ty th ap ft bo ot il)), (A 5, aI G 4624 qu), (A 6, aI G 4624 fr), (A 7, aI G 4624 by9), (A 8, aI G 4624 fa), (A 9, aI G 16 fs), (a, aI G 53 f)] := by
    intro m
    induction m with
    | zero =>
      intro i x qu fr by9 fa fs hi hx hfa
      obtain rfl : i = 4624 := by omega
      refine st_iload_n C (dk DX6_lays_0 2 rfl) rfl ?_
      refine st_sipush C (v := 4624) (dk DX6_lays_0 3 rfl) (by decide) ?_
      refine st_icmp_ge C (tgt := 22) (dk DX6_lays_0 4 rfl) (by decide) (fun c_6 => ?_) (fun c_6 => ?_)
      · refine st_iconst C (v := 0) (dk DX6_lays_0 12 rfl) (by decide) ?_
        refine st_istore_n C (dk DX6_lays_0 13 rfl) (by decide) rfl ?_
        exact loop2 16 0 _ _ _ _ _ _ (by omega) rfl hfa (fun j hj => absurd hj (Nat.not_lt_zero j))
      · exact absurd ((ge_nI (a := 4624) (i := 4624) (by decide) (by decide) rfl hx).mpr (Nat.le_refl _)) c_6
    | succ m ih =>
      intro i x qu fr by9 fa fs hi hx hfa
      refine st_iload_n C (dk DX6_lays_0 2 rfl) rfl ?_
      refine st_sipush C (v := 4624) (dk DX6_lays_0 3 rfl) (by decide) ?_
      refine st_icmp_ge C (tgt := 22) (dk DX6_lays_0 4 rfl) (by decide) (fun c_6 => ?_) (fun c_6 => ?_)
      · exact absurd ((ge_nI (a := 4624) (i := i) (by decide) (by omega) rfl hx).mp c_6) (by omega)
      · refine st_aload_n C (dk DX6_lays_0 5 rfl) rfl ?_
        refine st_get C fl_RX6_34 (dk DX6_lays_0 6 rfl) 0 rfl rfl ?_
        refine st_iload_n C (dk DX6_lays_0 7 rfl) rfl ?_
        refine st_iconst C (v := -1) (dk DX6_lays_0 8 rfl) (by decide) ?_
        refine st_iast C (dk DX6_lays_0 9 rfl) 4 rfl (vp_nI hx (by omega : i < 4624) (by decide)) ?_
        refine st_iinc C (dk DX6_lays_0 10 rfl) rfl (iadd_ofInt _ (1) (1) (by decide)) (by decide) rfl ?_
        refine st_goto C (tgt := 2) (dk DX6_lays_0 11 rfl) (by decide) ?_
        exact ih (i + 1) _ _ _ _ _ _ (by omega) (up_nI hx) (upd_cp (g := fun _ => -1) hx (by omega) hfa)
  refine st_iconst C (v := 0) (dk DX6_lays_0 0 rfl) (by decide) ?_
  refine st_istore_n C (dk DX6_lays_0 1 rfl) (by decide) rfl ?_
  exact loop1 4624 0 _ _ _ _ _ _ (by omega) rfl (fun j hj => absurd hj (Nat.not_lt_zero j))
