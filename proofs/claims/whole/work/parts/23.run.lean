/-! the contract of Search.run -/
theorem szpos {x : Int32} {n : Nat} (h : x = nI n) (hn : n < 2 ^ 31) : ¬ x < 0 := by rw [h]; exact nI_pos hn
theorem SRel.nil (ec : bT → Nat) (en : Nat → Int32) {sn : Nat → Int64} {nd ln : Nat → Int32} (hs : ∀ j, j < 256 → sn j = 0) (hn : ∀ j, j < 16 → nd j = 0) (hl : ∀ j, j < 16 → ln j = -1) : SRel ec [] 0 0 en sn nd ln := by
  refine ⟨rfl, rfl, fun i e h => by simp at h, fun x hx => ?_, fun c hc => by rw [hn c hc]; rfl, fun c hc => by rw [hl c hc]; rfl⟩
  constructor
  · intro h
    unfold sbit at h
    rw [hs (x / 64) (by omega)] at h
    simp at h
  · rintro ⟨e, he, -⟩
    exact absurd he List.not_mem_nil
theorem eeb {g : bT → Nat → Option bT} {t0 : bT} {V : bT → Prop} (hok : ∀ k, bOk g t0 V (bRun g t0 k)) (hp : ∀ L : List bT, L.Nodup → (∀ t ∈ L, V t) → L.length ≤ 4624) (k : Nat) {i : Nat} {e : bE} (he : (bRun g t0 k)[i]? = some e) : e.2.1 < 5 ∧ e.2.2.1 < 4624 := by
  by_cases h0 : 0 < i
  · obtain ⟨b, b1, b2, b3, b4, -⟩ := (hok k).2.2.2 i e he h0
    have := (hok k).len hp
    have h1 := (List.getElem?_eq_some_iff.mp he).1
    exact ⟨b4, by omega⟩
  · have : i = 0 := by omega
    subst this
    rw [(hok k).2.2.1] at he
    cases he
    exact ⟨(by show (0 : Nat) < 5; decide), (by show (0 : Nat) < 4624; decide)⟩
theorem bAdd_dst {Q : List bE} {u : bT} {s b d n : Nat} (h : ∀ i, n ≤ i → i < Q.length → dst Q i = d) : ∀ i, n ≤ i → i < (bAdd Q u s b d).length → dst (bAdd Q u s b d) i = d := by
  intro i h1 h2
  by_cases hu : u ∈ Q.map (·.1)
  · have e : bAdd Q u s b d = Q := by unfold bAdd; rw [if_pos hu]
    rw [e] at h2 ⊢
    exact h i h1 h2
  · have e : bAdd Q u s b d = Q ++ [(u, s, b, d)] := by unfold bAdd; rw [if_neg hu]
    rw [e] at h2 ⊢
    by_cases hil : i < Q.length
    · rw [dst_app hil]; exact h i h1 hil
    · have h3 : i = Q.length := by simp at h2; omega
      subst h3
      unfold dst eAt
      simp
set_option maxHeartbeats 4000000 in
set_option maxRecDepth 100000 in
theorem k_X3_run (l : Launch) (G : wG) {t t1 t2 t3 t4 : Nat} {sz rc : Int32} {en : Nat → Int32} {sn : Nat → Int64} {nd ln : Nat → Int32} {p q1 q2 : Nat} {fb sb co le sp sw dp : Int32} {lk ld : Nat → Int32} {g : bT → Nat → Option bT} {t0 : bT} {V : bT → Prop} {ec : bT → Nat} (hS : SGh lk ld fb sb le g V ec) (h0 : V t0) (hco : co = nI (ec t0)) : Con0 l G yX3_run cX3_run 8 none 4 [.ref t, .ref p] [(t, ob 2 (sF t1 t2 t3 t4 sz rc)), (t1, aI G 4624 en), (t2, aJ G 256 sn), (t3, aI G 16 nd), (t4, aI G 16 ln), (p, ob 0 (cF q1 q2 fb sb co le sp sw dp)), (q1, aI G 15 lk), (q2, aI G 16 ld)] (fun v w => v = none ∧ ∃ (sz9 rc9 : Int32) (en9 : Nat → Int32) (sn9 : Nat → Int64) (nd9 ln9 : Nat → Int32), SRes ec (bF g t0) rc9 en9 nd9 ln9 ∧ w = [(t, ob 2 (sF t1 t2 t3 t4 sz9 rc9)), (t1, aI G 4624 en9), (t2, aJ G 256 sn9), (t3, aI G 16 nd9), (t4, aI G 16 ln9), (p, ob 0 (cF q1 q2 fb sb co le sp sw dp)), (q1, aI G 15 lk), (q2, aI G 16 ld)]) := by
  refine Con.mk (by decide +kernel) (Nat.le_of_ble_eq_true rfl) (fun P C Rr => ?_)
  obtain ⟨s1, s2, s3, s4, s5⟩ := id hS
  have hcl : ∀ t s t', V t → s < 5 → g t s = some t' → V t' := fun t s t' h1 h2 h3 => (s5 t s t' h1 h2 h3).1
  have hok : ∀ k, bOk g t0 V (bRun g t0 k) := bOk.run hcl h0
  have hlen : ∀ k, (bRun g t0 k).length ≤ 4624 := fun k => (hok k).len s3
  have outer : ∀ (m k : Nat) (x2 x3 x4 : Int32) (d le9 : Nat) (sz rc : Int32) (en : Nat → Int32) (sn : Nat → Int64) (nd ln : Nat → Int32), k + m = 4624 → x4 = nI k → x3 = nI le9 → x2 = nI d → SRel ec (bRun g t0 k) sz rc en sn nd ln → Lv (bRun g t0 k) k d le9 → P 0 0 22 [(0, .ref t), (1, .ref p), (2, .int x2), (3, .int x3), (4, .int x4)] [] [(t, ob 2 (sF t1 t2 t3 t4 sz rc)), (t1, aI G 4624 en), (t2, aJ G 256 sn), (t3, aI G 16 nd), (t4, aI G 16 ln), (p, ob 0 (cF q1 q2 fb sb co le sp sw dp)), (q1, aI G 15 lk), (q2, aI G 16 ld)] := by
    intro m
    induction m with
    | zero =>
      intro k x2 x3 x4 d le9 sz rc en sn nd ln hk hx4 hx3 hx2 hR hL
      have hkl : (bRun g t0 k).length ≤ k := by have := hlen k; omega
      refine st_iload C (dk DX3_run_0 15 rfl) rfl ?_
      refine st_aload_n C (dk DX3_run_0 16 rfl) rfl ?_
      refine st_get C fl_RX3_40 (dk DX3_run_0 17 rfl) 0 rfl rfl ?_
      refine st_icmp_ge C (tgt := 121) (dk DX3_run_0 18 rfl) (by decide) (fun c_28 => ?_) (fun c_28 => ?_)
      · exact Rr 0 0 _ _ _ _ _ _ (Nat.zero_le _) (Nat.zero_le _) (dk DX3_run_1 21 rfl) (.inl ⟨rfl, rfl, rfl, rfl⟩) rfl ⟨rfl, ⟨rfl, _, _, _, _, _, _, hR.res (by omega) (Or.inl hkl), rfl⟩⟩
      · exact absurd ((ge_nI (a := (bRun g t0 k).length) (i := k) (by omega) (by omega) hR.1 hx4).mpr hkl) c_28
    | succ m ihO =>
      intro k x2 x3 x4 d le9 sz rc en sn nd ln hk hx4 hx3 hx2 hR hL
      have hlk := hlen k
      refine st_iload C (dk DX3_run_0 15 rfl) rfl ?_
      refine st_aload_n C (dk DX3_run_0 16 rfl) rfl ?_
      refine st_get C fl_RX3_40 (dk DX3_run_0 17 rfl) 0 rfl rfl ?_
      refine st_icmp_ge C (tgt := 121) (dk DX3_run_0 18 rfl) (by decide) (fun c_28 => ?_) (fun c_28 => ?_)
      · exact Rr 0 0 _ _ _ _ _ _ (Nat.zero_le _) (Nat.zero_le _) (dk DX3_run_1 21 rfl) (.inl ⟨rfl, rfl, rfl, rfl⟩) rfl ⟨rfl, ⟨rfl, _, _, _, _, _, _, hR.res (by omega) (Or.inl ((ge_nI (a := (bRun g t0 k).length) (i := k) (by omega) (by omega) hR.1 hx4).mp c_28)), rfl⟩⟩
      · refine st_iload C (dk DX3_run_0 19 rfl) rfl ?_
        refine st_sipush C (v := 4624) (dk DX3_run_0 20 rfl) (by decide) ?_
        refine st_icmp_ge C (tgt := 121) (dk DX3_run_0 21 rfl) (by decide) (fun c_36 => ?_) (fun c_36 => ?_)
        · exact absurd ((ge_nI (a := 4624) (i := k) (by decide) (by omega) rfl hx4).mp c_36) (by omega)
        · have hkl : k < (bRun g t0 k).length := by
            have h9 := mt (ge_nI (a := (bRun g t0 k).length) (i := k) (by omega) (by omega) hR.1 hx4).mpr c_28
            omega
          obtain ⟨e0, he0⟩ : ∃ e, (bRun g t0 k)[k]? = some e := ⟨_, List.getElem?_eq_getElem hkl⟩
          have hde : dst (bRun g t0 k) k = e0.2.2.2 := by unfold dst; rw [eAt_get he0]
          have hVe : V e0.1 := (hok k).2.1 e0 (List.mem_of_getElem? he0)
          obtain ⟨c1, c2, c3⟩ := s1 e0.1 hVe
          have inner : ∀ (d le9 : Nat) (x2 x3 : Int32), x3 = nI le9 → x2 = nI d → e0.2.2.2 + 1 = d → k + 1 ≤ le9 → le9 ≤ (bRun g t0 k).length → (∀ i, k + 1 ≤ i → i < le9 → dst (bRun g t0 k) i + 1 = d) → ∀ (m s : Nat) (x5 x6 : Int32) (sz rc : Int32) (en : Nat → Int32) (sn : Nat → Int64) (nd ln : Nat → Int32), s + m = 5 → x5 = nI (ec e0.1) → x6 = nI s → SRel ec (bRow g (bRun g t0 k) k s) sz rc en sn nd ln → (∀ i, le9 ≤ i → i < (bRow g (bRun g t0 k) k s).length → dst (bRow g (bRun g t0 k) k s) i = d) → P 0 0 77 [(0, .ref t), (1, .ref p), (2, .int x2), (3, .int x3), (4, .int x4), (5, .int x5), (6, .int x6)] [] [(t, ob 2 (sF t1 t2 t3 t4 sz rc)), (t1, aI G 4624 en), (t2, aJ G 256 sn), (t3, aI G 16 nd), (t4, aI G 16 ln), (p, ob 0 (cF q1 q2 fb sb co le sp sw dp)), (q1, aI G 15 lk), (q2, aI G 16 ld)] := by
            intro d le9 x2 x3 hx3 hx2 hd hle1 hle2 hla m
            induction m with
            | zero =>
              intro s x5 x6 sz rc en sn nd ln hs hx5 hx6 hR hlb
              obtain rfl : s = 5 := by omega
              refine st_iload C (dk DX3_run_1 1 rfl) rfl ?_
              refine st_iconst C (v := 5) (dk DX3_run_1 2 rfl) (by decide) ?_
              refine st_icmp_ge C (tgt := 115) (dk DX3_run_1 3 rfl) (by decide) (fun c_80 => ?_) (fun c_80 => ?_)
              · refine st_iinc C (dk DX3_run_1 19 rfl) rfl (iadd_ofInt _ (1) (1) (by decide)) (by decide) rfl ?_
                refine st_goto C (tgt := 22) (dk DX3_run_1 20 rfl) (by decide) ?_
                refine st_lv C [0, 1, 2, 3, 4] rfl ?_
                obtain ⟨Z, hZ⟩ := bRow_ext g (bRun g t0 k) k 5
                exact ihO (k + 1) _ _ _ d le9 _ _ _ _ _ _ (by omega) (up_nI hx4) hx3 hx2 hR ⟨hle1, by show le9 ≤ (bRow g (bRun g t0 k) k 5).length; rw [hZ, List.length_append]; omega, fun i h1 h2 => by show dst (bRow g (bRun g t0 k) k 5) i + 1 = d; rw [hZ, dst_app (by omega)]; exact hla i h1 h2, fun i h1 h2 => hlb i h1 h2⟩
              · exact absurd ((ge_nI (a := 5) (i := 5) (by decide) (by decide) rfl hx6).mpr (Nat.le_refl _)) c_80
            | succ m ih =>
              intro s x5 x6 sz rc en sn nd ln hs hx5 hx6 hR hlb
              refine st_iload C (dk DX3_run_1 1 rfl) rfl ?_
              refine st_iconst C (v := 5) (dk DX3_run_1 2 rfl) (by decide) ?_
              refine st_icmp_ge C (tgt := 115) (dk DX3_run_1 3 rfl) (by decide) (fun c_80 => ?_) (fun c_80 => ?_)
              · exact absurd ((ge_nI (a := 5) (i := s) (by decide) (by omega) rfl hx6).mp c_80) (by omega)
              · refine st_aload_n C (dk DX3_run_1 4 rfl) rfl ?_
                refine st_iload C (dk DX3_run_1 5 rfl) rfl ?_
                refine st_iload C (dk DX3_run_1 6 rfl) rfl ?_
                refine st_cV C (k_X1_after l G) mf_X1_after mi_X1_after ml_RX3_50 (dk DX3_run_1 7 rfl) [5, 6, 7] rfl rfl rfl rfl (Nat.le_of_ble_eq_true rfl) rfl rfl ⟨Nat.le_of_ble_eq_true rfl, Nat.le_of_ble_eq_true rfl⟩ ⟨Nat.zero_le _, Nat.zero_le _⟩ (fun r9 w9 hq9 => ?_)
                obtain ⟨rfl, rfl⟩ := hq9
                refine st_istore C (dk DX3_run_1 8 rfl) (by decide) rfl ?_
                refine st_iload C (dk DX3_run_1 9 rfl) rfl ?_
                refine st_if_lt C (tgt := 109) (dk DX3_run_1 10 rfl) (by decide) (fun c_95 => ?_) (fun c_95 => ?_)
                · refine st_iinc C (dk DX3_run_1 17 rfl) rfl (iadd_ofInt _ (1) (1) (by decide)) (by decide) rfl ?_
                  refine st_goto C (tgt := 77) (dk DX3_run_1 18 rfl) (by decide) ?_
                  refine st_lv C [0, 1, 2, 3, 4, 5, 6] rfl ?_
                  have hg : g e0.1 s = none := by
                    cases hg : g e0.1 s with
                    | none => rfl
                    | some u =>
                      have h9 := (s5 e0.1 s u hVe (by omega) hg).2
                      rw [hx5, hx6, h9] at c_95
                      exact absurd c_95 (nI_pos (by have := (s1 u (s5 e0.1 s u hVe (by omega) hg).1).2.1; omega))
                  exact ih (s + 1) _ _ _ _ _ _ _ _ (by omega) hx5 (up_nI hx6) (by rw [bRow_none he0 hg]; exact hR) (by rw [bRow_none he0 hg]; exact hlb)
                · obtain ⟨u, hg⟩ : ∃ u, g e0.1 s = some u := by
                    cases hg : g e0.1 s with
                    | none =>
                      have h9 := s4 e0.1 s hVe (by omega) hg
                      rw [← hx5, ← hx6] at h9
                      exact absurd h9 c_95
                    | some u => exact ⟨u, rfl⟩
                  obtain ⟨sz9, rc9, en9, sn9, nd9, ln9, hA9, hR9⟩ := SRel.row (G := G) hS (hok k) he0 (by omega) hg t t1 t2 t3 t4 hR hd
                  rw [← hx5, ← hx6, ← hx4, ← hx2] at hA9
                  refine st_aload_n C (dk DX3_run_1 11 rfl) rfl ?_
                  refine st_iload C (dk DX3_run_1 12 rfl) rfl ?_
                  refine st_iload C (dk DX3_run_1 13 rfl) rfl ?_
                  refine st_iload C (dk DX3_run_1 14 rfl) rfl ?_
                  refine st_iload_n C (dk DX3_run_1 15 rfl) rfl ?_
                  refine st_cV C (k_X3_add l G (szpos hR.1 (by have := ((hok k).row hcl (k := k) s (by omega)).len s3; omega))) mf_X3_add mi_X3_add ml_RX3_36 (dk DX3_run_1 16 rfl) [0, 1, 2, 3, 4] rfl rfl rfl rfl (Nat.le_of_ble_eq_true rfl) rfl rfl ⟨Nat.le_of_ble_eq_true rfl, Nat.le_of_ble_eq_true rfl⟩ ⟨Nat.zero_le _, Nat.zero_le _⟩ (fun r9 w9 hq9 => ?_)
                  obtain ⟨rfl, rfl⟩ := hq9
                  rw [hA9]
                  refine st_iinc C (dk DX3_run_1 17 rfl) rfl (iadd_ofInt _ (1) (1) (by decide)) (by decide) rfl ?_
                  refine st_goto C (tgt := 77) (dk DX3_run_1 18 rfl) (by decide) ?_
                  refine st_lv C [0, 1, 2, 3, 4, 5, 6] rfl ?_
                  exact ih (s + 1) _ _ _ _ _ _ _ _ (by omega) hx5 (up_nI hx6) hR9 (by rw [bRow_some he0 hg, hd]; exact bAdd_dst hlb)
          have J62 : ∀ (d le9 : Nat) (x2 x3 : Int32), x3 = nI le9 → x2 = nI d → e0.2.2.2 + 1 = d → k + 1 ≤ le9 → le9 ≤ (bRun g t0 k).length → (∀ i, k + 1 ≤ i → i < le9 → dst (bRun g t0 k) i + 1 = d) → (∀ i, le9 ≤ i → i < (bRun g t0 k).length → dst (bRun g t0 k) i = d) → P 0 0 62 [(0, .ref t), (1, .ref p), (2, .int x2), (3, .int x3), (4, .int x4)] [] [(t, ob 2 (sF t1 t2 t3 t4 sz rc)), (t1, aI G 4624 en), (t2, aJ G 256 sn), (t3, aI G 16 nd), (t4, aI G 16 ln), (p, ob 0 (cF q1 q2 fb sb co le sp sw dp)), (q1, aI G 15 lk), (q2, aI G 16 ld)] := by
            intro d le9 x2 x3 hx3 hx2 hd hle1 hle2 hla hlb
            refine st_aload_n C (dk DX3_run_0 33 rfl) rfl ?_
            refine st_get C fl_RX3_11 (dk DX3_run_0 34 rfl) 0 rfl rfl ?_
            refine st_iload C (dk DX3_run_0 35 rfl) rfl ?_
            refine st_iald C (dk DX3_run_0 36 rfl) 1 rfl (vp_nI hx4 (by omega : k < 4624) (by decide)) ?_
            refine st_cS C (k_X3_codeOf l G) mf_X3_codeOf ms_X3_codeOf ml_RX3_46 (dk DX3_run_0 37 rfl) [] rfl rfl rfl rfl (Nat.le_of_ble_eq_true rfl) ⟨Nat.le_of_ble_eq_true rfl, Nat.le_of_ble_eq_true rfl⟩ ⟨Nat.zero_le _, Nat.zero_le _⟩ (fun r9 w9 hq9 => ?_)
            obtain ⟨rfl, rfl⟩ := hq9
            refine st_istore C (dk DX3_run_0 38 rfl) (by decide) rfl ?_
            refine st_iconst C (v := 0) (dk DX3_run_0 39 rfl) (by decide) ?_
            refine st_istore C (dk DX3_run_1 0 rfl) (by decide) rfl ?_
            exact inner d le9 _ _ hx3 hx2 hd hle1 hle2 hla 5 0 _ _ _ _ _ _ _ _ (by omega) (by rw [cl_nI hx4 (by omega), hR.2.2.1 k e0 he0, rCde_nI (by unfold ee; have := eeb hok s3 k he0; omega)]; congr 1; unfold ee; omega) rfl hR hlb
          refine st_aload_n C (dk DX3_run_0 22 rfl) rfl ?_
          refine st_get C fl_RX3_43 (dk DX3_run_0 23 rfl) 0 rfl rfl ?_
          refine st_bipush C (v := 16) (dk DX3_run_0 24 rfl) (by decide) ?_
          refine st_icmp_ge C (tgt := 121) (dk DX3_run_0 25 rfl) (by decide) (fun c_45 => ?_) (fun c_45 => ?_)
          · exact Rr 0 0 _ _ _ _ _ _ (Nat.zero_le _) (Nat.zero_le _) (dk DX3_run_1 21 rfl) (.inl ⟨rfl, rfl, rfl, rfl⟩) rfl ⟨rfl, ⟨rfl, _, _, _, _, _, _, hR.res (by omega) (Or.inr (by have h9 := cnt_le (bRun g t0 k) 16; have h8 := (ge_nI (a := 16) (i := cnt (bRun g t0 k) 16) (by decide) (by omega) rfl hR.2.1).mp c_45; omega)), rfl⟩⟩
          · refine st_iload C (dk DX3_run_0 26 rfl) rfl ?_
            refine st_iload_n C (dk DX3_run_0 27 rfl) rfl ?_
            refine st_icmp_ne C (tgt := 62) (dk DX3_run_0 28 rfl) (by decide) (fun c_51 => ?_) (fun c_51 => ?_)
            · have hne : ¬ k = le9 := fun h => c_51 ((eq_nI (a := k) (i := le9) (by omega) (by have := hL.2.1; omega) hx4 hx3).mpr h)
              obtain ⟨l1, l2, l3, l4⟩ := hL
              exact J62 d le9 _ _ hx3 hx2 (by rw [← hde]; exact l3 k (Nat.le_refl _) (by omega)) (by omega) l2 (fun i h1 h2 => l3 i (by omega) h2) l4
            · refine st_iinc C (dk DX3_run_0 29 rfl) rfl (iadd_ofInt _ (1) (1) (by decide)) (by decide) rfl ?_
              refine st_aload_n C (dk DX3_run_0 30 rfl) rfl ?_
              refine st_get C fl_RX3_40 (dk DX3_run_0 31 rfl) 0 rfl rfl ?_
              refine st_istore_n C (dk DX3_run_0 32 rfl) (by decide) rfl ?_
              have heq : k = le9 := (eq_nI (a := k) (i := le9) (by omega) (by have := hL.2.1; omega) hx4 hx3).mp c_51
              obtain ⟨l1, l2, l3, l4⟩ := hL
              exact J62 (d + 1) (bRun g t0 k).length _ _ hR.1 (up_nI hx2) (by rw [← hde, l4 k (by omega) hkl]) (by omega) (Nat.le_refl _) (fun i h1 h2 => by rw [l4 i (by omega) h2]) (fun i h1 h2 => by omega)
  refine st_aload_n C (dk DX3_run_0 0 rfl) rfl ?_
  refine st_cV C (k_X3_forget l G) mf_X3_forget mi_X3_forget ml_RX3_27 (dk DX3_run_0 1 rfl) [0, 2, 3, 4] rfl rfl rfl rfl (Nat.le_of_ble_eq_true rfl) rfl rfl ⟨Nat.le_of_ble_eq_true rfl, Nat.le_of_ble_eq_true rfl⟩ ⟨Nat.zero_le _, Nat.zero_le _⟩ (fun r9 w9 hq9 => ?_)
  obtain ⟨rfl, sn1, nd1, ln1, hsn1, hnd1, hln1, rfl⟩ := hq9
  obtain ⟨sz9, rc9, en9, sn9, nd9, ln9, hA9, hR9⟩ := SRel.add (G := G) (c := 0) (V := V) (s := 0) (b := 0) (d := 0) (u := t0) t t1 t2 t3 t4 (SRel.nil ec en hsn1 hnd1 hln1) (fun e he => absurd he List.not_mem_nil) h0 s2 (s1 t0 h0).1 (s1 t0 h0).2.1 (s1 t0 h0).2.2 (by omega) (by omega) (fun _ => by decide) (by decide) (fun i hi => absurd hi (Nat.not_lt_zero i))
  rw [← hco, nI_0] at hA9
  refine st_aload_n C (dk DX3_run_0 2 rfl) rfl ?_
  refine st_aload_n C (dk DX3_run_0 3 rfl) rfl ?_
  refine st_get C fl_RX3_30 (dk DX3_run_0 4 rfl) 5 rfl rfl ?_
  refine st_iconst C (v := 0) (dk DX3_run_0 5 rfl) (by decide) ?_
  refine st_iconst C (v := 0) (dk DX3_run_0 6 rfl) (by decide) ?_
  refine st_iconst C (v := 0) (dk DX3_run_0 7 rfl) (by decide) ?_
  refine st_cV C (k_X3_add l G (by decide)) mf_X3_add mi_X3_add ml_RX3_36 (dk DX3_run_0 8 rfl) [0, 1, 2, 3, 4] rfl rfl rfl rfl (Nat.le_of_ble_eq_true rfl) rfl rfl ⟨Nat.le_of_ble_eq_true rfl, Nat.le_of_ble_eq_true rfl⟩ ⟨Nat.zero_le _, Nat.zero_le _⟩ (fun r9 w9 hq9 => ?_)
  obtain ⟨rfl, rfl⟩ := hq9
  rw [hA9]
  refine st_iconst C (v := 1) (dk DX3_run_0 9 rfl) (by decide) ?_
  refine st_istore_n C (dk DX3_run_0 10 rfl) (by decide) rfl ?_
  refine st_iconst C (v := 1) (dk DX3_run_0 11 rfl) (by decide) ?_
  refine st_istore_n C (dk DX3_run_0 12 rfl) (by decide) rfl ?_
  refine st_iconst C (v := 0) (dk DX3_run_0 13 rfl) (by decide) ?_
  refine st_istore C (dk DX3_run_0 14 rfl) (by decide) rfl ?_
  exact outer 4624 0 _ _ _ 1 1 _ _ _ _ _ _ (by omega) rfl rfl rfl hR9 ⟨by omega, by simp [bRun], fun i h1 h2 => by have h3 : i = 0 := (by omega); subst h3; rfl, fun i h1 h2 => by simp [bRun] at h2; omega⟩
