/-! the reference: isText, firstError, corridor -/
set_option maxHeartbeats 4000000 in
set_option maxRecDepth 100000 in
theorem k_X6_isText (l : Launch) (G : wG) {M : Nat} {A : Nat → Nat} {ke ty th ap ft bo ot il : Int32} {f3 tl : Nat → Int32} {n : Nat} {tx : Nat → Nat} (hty : ty = nI n) (hn : n ≤ 60) (ht : hdT f3 n tx) : Con0 l G yX6_isText cX6_isText 4 (some .boolean) 2 [.ref M] [(M, ob 5 (mF A ke ty th ap ft bo ot il)), (A 3, aI G 60 f3), (A 4, aI G 48 tl)] (fun r w9 => ∃ (c la dg : Nat) (kf df lf : mS) (tl9 : Nat → Int32), tRun tx (fe tx n) = some (c, la, dg, kf, df, lf) ∧ r = some (.int (if fe tx n = n ∧ c = 16 then 1 else 0)) ∧ ((fe tx n = n ∧ c = 16) → (∀ j, j < 16 → tl9 j = nI (kf j) ∧ tl9 (16 + j) = nI (df j) ∧ tl9 (32 + j) = nI (lf j))) ∧ w9 = [(M, ob 5 (mF A ke ty th (nI (fe tx n)) (if fe tx n < n then 1 else 0) bo ot il)), (A 3, aI G 60 f3), (A 4, aI G 48 tl9)]) := by
  refine Con.mk (by decide +kernel) (Nat.le_of_ble_eq_true rfl) (fun P C Rr => ?_)
  have loop : ∀ (m i : Nat) (x : Int32) (a dg la : Nat) (kf df lf : mS) (tl : Nat → Int32), i + m = 16 → x = nI i → a ≤ n → tRun tx a = some (i, la, dg, kf, df, lf) → (a < n → tx a = 124 → ¬ la = 1) → (a < n → 97 ≤ tx a → tx a ≤ 101 → ¬ ((la = 1 ∨ la = 2) ∧ i < 16)) → (∀ j, j < i → tl j = nI (kf j) ∧ tl (16 + j) = nI (df j) ∧ tl (32 + j) = nI (lf j)) → P 0 0 14 [(0, .ref M), (1, .int (nI dg)), (2, .int x)] [] [(M, ob 5 (mF A ke ty th (nI a) 0 bo ot il)), (A 3, aI G 60 f3), (A 4, aI G 48 tl)] := by
    intro m
    induction m with
    | zero =>
      intro i x a dg la kf df lf tl hi hx han hq hlk hlk2 htold
      obtain rfl : i = 16 := by omega
      refine st_iload_n C (dk DX6_isText_0 10 rfl) rfl ?_
      refine st_bipush C (v := 16) (dk DX6_isText_0 11 rfl) (by decide) ?_
      refine st_icmp_ge C (tgt := 246) (dk DX6_isText_0 12 rfl) (by decide) (fun c_17 => ?_) (fun c_17 => ?_)
      · refine st_aload_n C (dk DX6_isText_3 20 rfl) rfl ?_
        refine st_aload_n C (dk DX6_isText_3 21 rfl) rfl ?_
        refine st_get C fl_RX6_132 (dk DX6_isText_3 22 rfl) 0 rfl rfl ?_
        refine st_aload_n C (dk DX6_isText_3 23 rfl) rfl ?_
        refine st_get C fl_RX6_129 (dk DX6_isText_3 24 rfl) 0 rfl rfl ?_
        refine st_icmp_ge C (tgt := 262) (dk DX6_isText_3 25 rfl) (by decide) (fun c_255 => ?_) (fun c_255 => ?_)
        · refine st_iconst C (v := 0) (dk DX6_isText_3 28 rfl) (by decide) ?_
          refine st_put C fl_RX6_135 fc_5 fw_5_8 (dk DX6_isText_3 29 rfl) 0 rfl (by rfl) (by rfl) (Nat.le_of_ble_eq_true rfl) ?_
          refine st_aload_n C (dk DX6_isText_3 30 rfl) rfl ?_
          refine st_get C fl_RX6_132 (dk DX6_isText_3 31 rfl) 0 rfl rfl ?_
          refine st_aload_n C (dk DX6_isText_3 32 rfl) rfl ?_
          refine st_get C fl_RX6_129 (dk DX6_isText_3 33 rfl) 0 rfl rfl ?_
          refine st_icmp_ne C (tgt := 281) (dk DX6_isText_3 34 rfl) (by decide) (fun c_274 => ?_) (fun c_274 => ?_)
          · refine st_iconst C (v := 0) (dk DX6_isText_3 37 rfl) (by decide) ?_
            refine Rr 0 0 _ _ _ _ _ _ (Nat.zero_le _) (Nat.zero_le _) (dk DX6_isText_3 38 rfl) (.inr (.inr (.inl ⟨_, rfl, (by first | exact Or.inl rfl | exact Or.inr rfl | assumption), rfl, rfl, rfl⟩))) rfl ?_
            have ha9 : a = n := by have := (ge_nI (a := n) (i := a) (y := nI a) (by omega) (by omega) hty rfl).mp c_255; omega
            exact absurd (by rw [hty, ha9]) c_274
          · refine st_iconst C (v := 1) (dk DX6_isText_3 35 rfl) (by decide) ?_
            refine st_goto C (tgt := 282) (dk DX6_isText_3 36 rfl) (by decide) ?_
            refine Rr 0 0 _ _ _ _ _ _ (Nat.zero_le _) (Nat.zero_le _) (dk DX6_isText_3 38 rfl) (.inr (.inr (.inl ⟨_, rfl, (by first | exact Or.inl rfl | exact Or.inr rfl | assumption), rfl, rfl, rfl⟩))) rfl ?_
            have ha9 : a = n := by have := (ge_nI (a := n) (i := a) (y := nI a) (by omega) (by omega) hty rfl).mp c_255; omega
            subst ha9
            have hfe : fe tx a = a := fe_n hq
            rw [hfe, if_neg (Nat.lt_irrefl a)]
            exact ⟨rfl, 16, la, dg, kf, df, lf, tl, hq, by rw [if_pos ⟨rfl, rfl⟩], fun _ => htold, rfl⟩
        · refine st_iconst C (v := 1) (dk DX6_isText_3 26 rfl) (by decide) ?_
          refine st_goto C (tgt := 263) (dk DX6_isText_3 27 rfl) (by decide) ?_
          refine st_put C fl_RX6_135 fc_5 fw_5_8 (dk DX6_isText_3 29 rfl) 0 rfl (by rfl) (by rfl) (Nat.le_of_ble_eq_true rfl) ?_
          refine st_aload_n C (dk DX6_isText_3 30 rfl) rfl ?_
          refine st_get C fl_RX6_132 (dk DX6_isText_3 31 rfl) 0 rfl rfl ?_
          refine st_aload_n C (dk DX6_isText_3 32 rfl) rfl ?_
          refine st_get C fl_RX6_129 (dk DX6_isText_3 33 rfl) 0 rfl rfl ?_
          refine st_icmp_ne C (tgt := 281) (dk DX6_isText_3 34 rfl) (by decide) (fun c_274 => ?_) (fun c_274 => ?_)
          · refine st_iconst C (v := 0) (dk DX6_isText_3 37 rfl) (by decide) ?_
            refine Rr 0 0 _ _ _ _ _ _ (Nat.zero_le _) (Nat.zero_le _) (dk DX6_isText_3 38 rfl) (.inr (.inr (.inl ⟨_, rfl, (by first | exact Or.inl rfl | exact Or.inr rfl | assumption), rfl, rfl, rfl⟩))) rfl ?_
            have ha9 : a < n := by have := mt (ge_nI (a := n) (i := a) (y := nI a) (by omega) (by omega) hty rfl).mpr c_255; omega
            have hfe : fe tx n = a := fe_no hq (tStep_no (fun _ => by omega) (fun _ _ => by omega) (hlk ha9) (fun _ _ => by omega)) ha9
            rw [hfe, if_pos ha9]
            exact ⟨rfl, 16, la, dg, kf, df, lf, tl, hq, by rw [if_neg (fun h => by omega)], fun h => by omega, rfl⟩
          · refine st_iconst C (v := 1) (dk DX6_isText_3 35 rfl) (by decide) ?_
            refine st_goto C (tgt := 282) (dk DX6_isText_3 36 rfl) (by decide) ?_
            refine Rr 0 0 _ _ _ _ _ _ (Nat.zero_le _) (Nat.zero_le _) (dk DX6_isText_3 38 rfl) (.inr (.inr (.inl ⟨_, rfl, (by first | exact Or.inl rfl | exact Or.inr rfl | assumption), rfl, rfl, rfl⟩))) rfl ?_
            have ha9 : a < n := by have := mt (ge_nI (a := n) (i := a) (y := nI a) (by omega) (by omega) hty rfl).mpr c_255; omega
            exact absurd ((eq_nI (a := a) (i := n) (x := nI a) (by omega) (by omega) rfl hty).mp c_274) (by omega)
      · exact absurd ((ge_nI (a := 16) (i := 16) (by decide) (by decide) rfl hx).mpr (Nat.le_refl _)) c_17
    | succ m ih =>
      intro i x a dg la kf df lf tl hi hx han hq hlk hlk2 htold
      obtain ⟨hc16, -, -, hdg2, hdgz, hzz, h555⟩ := tRun_ok hq
      obtain ⟨hkf, hdf, hlf⟩ := hzz i (Nat.le_refl _)
      have hkf : kf i = 0 := hkf
      have hdf : df i = 0 := hdf
      have hlf : lf i = 0 := hlf
      have hdg2 : dg ≤ 2 := hdg2
      have K170 : ∀ (a la dg : Nat) (kf df lf : mS) (tl : Nat → Int32) (v3 : Int32), a ≤ n → tRun tx a = some (i + 1, la, dg, kf, df, lf) → (la = 1 ∨ la = 2) → df i = 0 → (a < n → tx a = 124 → ¬ la = 1) → (∀ j, j < i → tl j = nI (kf j) ∧ tl (16 + j) = nI (df j) ∧ tl (32 + j) = nI (lf j)) → tl i = nI (kf i) → tl (32 + i) = nI (lf i) → P 0 0 170 [(0, .ref M), (1, .int (nI dg)), (2, .int x), (3, .int v3)] [] [(M, ob 5 (mF A ke ty th (nI a) 0 bo ot il)), (A 3, aI G 60 f3), (A 4, aI G 48 tl)] := by
        intro a la dg kf df lf tl v3 han hq hla hdf hlk htold hti htl
        refine st_aload_n C (dk DX6_isText_2 18 rfl) rfl ?_
        refine st_get C fl_RX6_22 (dk DX6_isText_2 19 rfl) 0 rfl rfl ?_
        refine st_bipush C (v := 16) (dk DX6_isText_2 20 rfl) (by decide) ?_
        refine st_iload_n C (dk DX6_isText_2 21 rfl) rfl ?_
        refine st_iadd C (dk DX6_isText_2 22 rfl) ?_
        refine st_iload_n C (dk DX6_isText_2 23 rfl) rfl ?_
        refine st_bipush C (v := 15) (dk DX6_isText_2 24 rfl) (by decide) ?_
        refine st_icmp_ge C (tgt := 212) (dk DX6_isText_2 25 rfl) (by decide) (fun c_181 => ?_) (fun c_181 => ?_)
        · refine st_iconst C (v := 0) (dk DX6_isText_3 1 rfl) (by decide) ?_
          refine st_iast C (dk DX6_isText_3 2 rfl) 2 rfl (by rw [hx]; exact vpA (k := 16) rfl (by omega) (by decide)) ?_
          refine st_aload_n C (dk DX6_isText_3 3 rfl) rfl ?_
          refine st_dup C (dk DX6_isText_3 4 rfl) rfl ?_
          refine st_get C fl_RX6_132 (dk DX6_isText_3 5 rfl) 0 rfl rfl ?_
          refine st_aload_n C (dk DX6_isText_3 6 rfl) rfl ?_
          refine st_get C fl_RX6_22 (dk DX6_isText_3 7 rfl) 0 rfl rfl ?_
          refine st_bipush C (v := 16) (dk DX6_isText_3 8 rfl) (by decide) ?_
          refine st_iload_n C (dk DX6_isText_3 9 rfl) rfl ?_
          refine st_iadd C (dk DX6_isText_3 10 rfl) ?_
          refine st_iald C (dk DX6_isText_3 11 rfl) 2 rfl (by rw [hx]; exact vpA (k := 16) rfl (by omega) (by decide)) ?_
          rw [pk_us]
          refine st_if_le C (tgt := 235) (dk DX6_isText_3 12 rfl) (by decide) (fun c_228 => ?_) (fun c_228 => ?_)
          · refine st_iconst C (v := 0) (dk DX6_isText_3 15 rfl) (by decide) ?_
            refine st_iadd C (dk DX6_isText_3 16 rfl) ?_
            refine st_put C fl_RX6_132 fc_5 fw_5_7 (dk DX6_isText_3 17 rfl) 0 rfl rfl rfl (Nat.le_of_ble_eq_true rfl) ?_
            refine st_iinc C (dk DX6_isText_3 18 rfl) rfl (iadd_ofInt _ (1) (1) (by decide)) (by decide) rfl ?_
            refine st_goto C (tgt := 14) (dk DX6_isText_3 19 rfl) (by decide) ?_
            refine st_lv C [0, 1, 2] rfl ?_
            rw [Int32.add_zero]
            have hk16 : ((16 : Int32) + x).toNatClampNeg = 16 + i := by rw [hx]; exact cl_nI (nadd 16 i rfl) (by omega)
            rw [hk16]
            exact ih (i + 1) _ a dg la kf df lf _ (by omega) (up_nI hx) han hq hlk (fun h1 h2 h3 => by have := (ge_nI (a := 15) (i := i) (x := 15) (by decide) (by omega) rfl hx).mp c_181; omega) (by
              intro j hj
              by_cases e : j = i
              · subst e
                rw [pk_un (by omega), pk_us, pk_un (by omega), hdf]
                exact ⟨hti, rfl, htl⟩
              · have h9 := htold j (by omega)
                rw [pk_un (by omega), pk_un (by omega), pk_un (by omega)]
                exact h9)
          · exact absurd (by decide) c_228
        · refine st_aload_n C (dk DX6_isText_2 26 rfl) rfl ?_
          refine st_bipush C (v := 97) (dk DX6_isText_2 27 rfl) (by decide) ?_
          refine st_bipush C (v := 101) (dk DX6_isText_2 28 rfl) (by decide) ?_
          refine st_cV C (k_X6_isAt l G (lo := 97) (hi := 101) hty hn ht rfl (by omega) rfl rfl (by decide) (by decide)) mf_X6_isAt mi_X6_isAt ml_RX6_138 (dk DX6_isText_2 29 rfl) [0, 1] rfl rfl rfl rfl (Nat.le_of_ble_eq_true rfl) rfl rfl ⟨Nat.le_of_ble_eq_true rfl, Nat.le_of_ble_eq_true rfl⟩ ⟨Nat.zero_le _, Nat.zero_le _⟩ (fun r9 w9 hq9 => ?_)
          obtain ⟨rfl, rfl⟩ := hq9
          refine st_if_eq C (tgt := 212) (dk DX6_isText_2 30 rfl) (by decide) (fun c_192 => ?_) (fun c_192 => ?_)
          · refine st_iconst C (v := 0) (dk DX6_isText_3 1 rfl) (by decide) ?_
            refine st_iast C (dk DX6_isText_3 2 rfl) 2 rfl (by rw [hx]; exact vpA (k := 16) rfl (by omega) (by decide)) ?_
            refine st_aload_n C (dk DX6_isText_3 3 rfl) rfl ?_
            refine st_dup C (dk DX6_isText_3 4 rfl) rfl ?_
            refine st_get C fl_RX6_132 (dk DX6_isText_3 5 rfl) 0 rfl rfl ?_
            refine st_aload_n C (dk DX6_isText_3 6 rfl) rfl ?_
            refine st_get C fl_RX6_22 (dk DX6_isText_3 7 rfl) 0 rfl rfl ?_
            refine st_bipush C (v := 16) (dk DX6_isText_3 8 rfl) (by decide) ?_
            refine st_iload_n C (dk DX6_isText_3 9 rfl) rfl ?_
            refine st_iadd C (dk DX6_isText_3 10 rfl) ?_
            refine st_iald C (dk DX6_isText_3 11 rfl) 2 rfl (by rw [hx]; exact vpA (k := 16) rfl (by omega) (by decide)) ?_
            rw [pk_us]
            refine st_if_le C (tgt := 235) (dk DX6_isText_3 12 rfl) (by decide) (fun c_228 => ?_) (fun c_228 => ?_)
            · refine st_iconst C (v := 0) (dk DX6_isText_3 15 rfl) (by decide) ?_
              refine st_iadd C (dk DX6_isText_3 16 rfl) ?_
              refine st_put C fl_RX6_132 fc_5 fw_5_7 (dk DX6_isText_3 17 rfl) 0 rfl rfl rfl (Nat.le_of_ble_eq_true rfl) ?_
              refine st_iinc C (dk DX6_isText_3 18 rfl) rfl (iadd_ofInt _ (1) (1) (by decide)) (by decide) rfl ?_
              refine st_goto C (tgt := 14) (dk DX6_isText_3 19 rfl) (by decide) ?_
              refine st_lv C [0, 1, 2] rfl ?_
              rw [Int32.add_zero]
              have hk16 : ((16 : Int32) + x).toNatClampNeg = 16 + i := by rw [hx]; exact cl_nI (nadd 16 i rfl) (by omega)
              rw [hk16]
              exact ih (i + 1) _ a dg la kf df lf _ (by omega) (up_nI hx) han hq hlk (fun h1 h2 h3 => fun _ => b01_f rfl c_192 ⟨h1, h2, h3⟩) (by
                intro j hj
                by_cases e : j = i
                · subst e
                  rw [pk_un (by omega), pk_us, pk_un (by omega), hdf]
                  exact ⟨hti, rfl, htl⟩
                · have h9 := htold j (by omega)
                  rw [pk_un (by omega), pk_un (by omega), pk_un (by omega)]
                  exact h9)
            · exact absurd (by decide) c_228
          · refine st_aload_n C (dk DX6_isText_2 31 rfl) rfl ?_
            refine st_get C fl_RX6_19 (dk DX6_isText_2 32 rfl) 0 rfl rfl ?_
            refine st_aload_n C (dk DX6_isText_2 33 rfl) rfl ?_
            refine st_get C fl_RX6_132 (dk DX6_isText_2 34 rfl) 0 rfl rfl ?_
            refine st_iald C (dk DX6_isText_2 35 rfl) 1 rfl (vp_nI rfl (by have := (b01_t rfl c_192).1; omega) (by decide)) ?_
            refine st_bipush C (v := 97) (dk DX6_isText_2 36 rfl) (by decide) ?_
            refine st_isub C (dk DX6_isText_2 37 rfl) ?_
            refine st_iconst C (v := 1) (dk DX6_isText_2 38 rfl) (by decide) ?_
            refine st_iadd C (dk DX6_isText_2 39 rfl) ?_
            refine st_goto C (tgt := 213) (dk DX6_isText_3 0 rfl) (by decide) ?_
            refine st_iast C (dk DX6_isText_3 2 rfl) 2 rfl (by rw [hx]; exact vpA (k := 16) rfl (by omega) (by decide)) ?_
            refine st_aload_n C (dk DX6_isText_3 3 rfl) rfl ?_
            refine st_dup C (dk DX6_isText_3 4 rfl) rfl ?_
            refine st_get C fl_RX6_132 (dk DX6_isText_3 5 rfl) 0 rfl rfl ?_
            refine st_aload_n C (dk DX6_isText_3 6 rfl) rfl ?_
            refine st_get C fl_RX6_22 (dk DX6_isText_3 7 rfl) 0 rfl rfl ?_
            refine st_bipush C (v := 16) (dk DX6_isText_3 8 rfl) (by decide) ?_
            refine st_iload_n C (dk DX6_isText_3 9 rfl) rfl ?_
            refine st_iadd C (dk DX6_isText_3 10 rfl) ?_
            refine st_iald C (dk DX6_isText_3 11 rfl) 2 rfl (by rw [hx]; exact vpA (k := 16) rfl (by omega) (by decide)) ?_
            rw [pk_us]
            refine st_if_le C (tgt := 235) (dk DX6_isText_3 12 rfl) (by decide) (fun c_228 => ?_) (fun c_228 => ?_)
            · exact absurd c_228 (by
        have hL := b01_t rfl c_192
        rw [nI_clamp (by omega), (ht a hL.1).1, show (97 : Int32) = nI 97 from rfl, pk_sub (by omega), nI_1]
        exact nI_nle (by omega) (by omega))
            · refine st_iconst C (v := 1) (dk DX6_isText_3 13 rfl) (by decide) ?_
              refine st_goto C (tgt := 236) (dk DX6_isText_3 14 rfl) (by decide) ?_
              refine st_iadd C (dk DX6_isText_3 16 rfl) ?_
              refine st_put C fl_RX6_132 fc_5 fw_5_7 (dk DX6_isText_3 17 rfl) 0 rfl rfl rfl (Nat.le_of_ble_eq_true rfl) ?_
              refine st_iinc C (dk DX6_isText_3 18 rfl) rfl (iadd_ofInt _ (1) (1) (by decide)) (by decide) rfl ?_
              refine st_goto C (tgt := 14) (dk DX6_isText_3 19 rfl) (by decide) ?_
              refine st_lv C [0, 1, 2] rfl ?_
              rw [nI_1 a]
              have hL := b01_t rfl c_192
              have h15 : i < 15 := by have := mt (ge_nI (a := 15) (i := i) (x := 15) (by decide) (by omega) rfl hx).mpr c_181; omega
              have hv : f3 (nI a).toNatClampNeg - 97 + 1 = nI (tx a - 96) := by
                rw [nI_clamp (by omega), (ht a hL.1).1, show (97 : Int32) = nI 97 from rfl, pk_sub (by omega), nI_1]; congr 1; omega
              rw [hv]
              have hk16 : ((16 : Int32) + x).toNatClampNeg = 16 + i := by rw [hx]; exact cl_nI (nadd 16 i rfl) (by omega)
              rw [hk16]
              exact ih (i + 1) _ (a + 1) dg 3 kf (updS df i (tx a - 96)) lf _ (by omega) (up_nI hx) (by omega) (by rw [tRun_s hq]; exact tStep_door hL.2.1 hL.2.2 hla (by omega)) (fun _ _ => by decide) (fun _ _ _ => by omega) (by
                intro j hj
                by_cases e : j = i
                · subst e
                  rw [pk_un (by omega), pk_us, pk_un (by omega), updS_s]
                  exact ⟨hti, rfl, htl⟩
                · have h9 := htold j (by omega)
                  rw [pk_un (by omega), pk_un (by omega), pk_un (by omega), updS_n _ _ e]
                  exact h9)
      have K127 : ∀ (a dg : Nat) (kf df lf : mS) (tl : Nat → Int32) (v3 : Int32), a ≤ n → tRun tx a = some (i + 1, 1, dg, kf, df, lf) → df i = 0 → lf i = 0 → (∀ j, j < i → tl j = nI (kf j) ∧ tl (16 + j) = nI (df j) ∧ tl (32 + j) = nI (lf j)) → tl i = nI (kf i) → P 0 0 127 [(0, .ref M), (1, .int (nI dg)), (2, .int x), (3, .int v3)] [] [(M, ob 5 (mF A ke ty th (nI a) 0 bo ot il)), (A 3, aI G 60 f3), (A 4, aI G 48 tl)] := by
        intro a dg kf df lf tl v3 han hq hdf hlf htold hti
        refine st_aload_n C (dk DX6_isText_1 33 rfl) rfl ?_
        refine st_get C fl_RX6_22 (dk DX6_isText_1 34 rfl) 0 rfl rfl ?_
        refine st_bipush C (v := 32) (dk DX6_isText_1 35 rfl) (by decide) ?_
        refine st_iload_n C (dk DX6_isText_1 36 rfl) rfl ?_
        refine st_iadd C (dk DX6_isText_1 37 rfl) ?_
        refine st_aload_n C (dk DX6_isText_1 38 rfl) rfl ?_
        refine st_bipush C (v := 124) (dk DX6_isText_1 39 rfl) (by decide) ?_
        refine st_bipush C (v := 124) (dk DX6_isText_2 0 rfl) (by decide) ?_
        refine st_cV C (k_X6_isAt l G (lo := 124) (hi := 124) hty hn ht rfl (by omega) rfl rfl (by decide) (by decide)) mf_X6_isAt mi_X6_isAt ml_RX6_138 (dk DX6_isText_2 1 rfl) [0, 1] rfl rfl rfl rfl (Nat.le_of_ble_eq_true rfl) rfl rfl ⟨Nat.le_of_ble_eq_true rfl, Nat.le_of_ble_eq_true rfl⟩ ⟨Nat.zero_le _, Nat.zero_le _⟩ (fun r9 w9 hq9 => ?_)
        obtain ⟨rfl, rfl⟩ := hq9
        refine st_if_eq C (tgt := 150) (dk DX6_isText_2 2 rfl) (by decide) (fun c_143 => ?_) (fun c_143 => ?_)
        · refine st_iconst C (v := 0) (dk DX6_isText_2 5 rfl) (by decide) ?_
          refine st_iast C (dk DX6_isText_2 6 rfl) 2 rfl (by rw [hx]; exact vpA (k := 32) rfl (by omega) (by decide)) ?_
          refine st_aload_n C (dk DX6_isText_2 7 rfl) rfl ?_
          refine st_dup C (dk DX6_isText_2 8 rfl) rfl ?_
          refine st_get C fl_RX6_132 (dk DX6_isText_2 9 rfl) 0 rfl rfl ?_
          refine st_aload_n C (dk DX6_isText_2 10 rfl) rfl ?_
          refine st_get C fl_RX6_22 (dk DX6_isText_2 11 rfl) 0 rfl rfl ?_
          refine st_bipush C (v := 32) (dk DX6_isText_2 12 rfl) (by decide) ?_
          refine st_iload_n C (dk DX6_isText_2 13 rfl) rfl ?_
          refine st_iadd C (dk DX6_isText_2 14 rfl) ?_
          refine st_iald C (dk DX6_isText_2 15 rfl) 2 rfl (by rw [hx]; exact vpA (k := 32) rfl (by omega) (by decide)) ?_
          rw [pk_us]
          refine st_iadd C (dk DX6_isText_2 16 rfl) ?_
          refine st_put C fl_RX6_132 fc_5 fw_5_7 (dk DX6_isText_2 17 rfl) 0 rfl rfl rfl (Nat.le_of_ble_eq_true rfl) ?_
          have hk32 : ((32 : Int32) + x).toNatClampNeg = 32 + i := by rw [hx]; exact cl_nI (nadd 32 i rfl) (by omega)
          rw [hk32]
          rw [Int32.add_zero]
          exact K170 a 1 dg kf df lf _ v3 han hq (Or.inl rfl) hdf (fun h1 h2 => absurd ⟨h1, by omega, by omega⟩ (b01_f rfl c_143)) (by
            intro j hj
            have h9 := htold j hj
            rw [pk_un (by omega), pk_un (by omega), pk_un (by omega)]
            exact h9) (by rw [pk_un (by omega)]; exact hti) (by rw [pk_us, hlf]; rfl)
        · refine st_iconst C (v := 1) (dk DX6_isText_2 3 rfl) (by decide) ?_
          refine st_goto C (tgt := 151) (dk DX6_isText_2 4 rfl) (by decide) ?_
          refine st_iast C (dk DX6_isText_2 6 rfl) 2 rfl (by rw [hx]; exact vpA (k := 32) rfl (by omega) (by decide)) ?_
          refine st_aload_n C (dk DX6_isText_2 7 rfl) rfl ?_
          refine st_dup C (dk DX6_isText_2 8 rfl) rfl ?_
          refine st_get C fl_RX6_132 (dk DX6_isText_2 9 rfl) 0 rfl rfl ?_
          refine st_aload_n C (dk DX6_isText_2 10 rfl) rfl ?_
          refine st_get C fl_RX6_22 (dk DX6_isText_2 11 rfl) 0 rfl rfl ?_
          refine st_bipush C (v := 32) (dk DX6_isText_2 12 rfl) (by decide) ?_
          refine st_iload_n C (dk DX6_isText_2 13 rfl) rfl ?_
          refine st_iadd C (dk DX6_isText_2 14 rfl) ?_
          refine st_iald C (dk DX6_isText_2 15 rfl) 2 rfl (by rw [hx]; exact vpA (k := 32) rfl (by omega) (by decide)) ?_
          rw [pk_us]
          refine st_iadd C (dk DX6_isText_2 16 rfl) ?_
          refine st_put C fl_RX6_132 fc_5 fw_5_7 (dk DX6_isText_2 17 rfl) 0 rfl rfl rfl (Nat.le_of_ble_eq_true rfl) ?_
          have hk32 : ((32 : Int32) + x).toNatClampNeg = 32 + i := by rw [hx]; exact cl_nI (nadd 32 i rfl) (by omega)
          rw [hk32]
          rw [nI_1 a]
          have hL := b01_t rfl c_143
          have h124 : tx a = 124 := by omega
          have hq9 : tRun tx (a + 1) = some (i + 1, 2, dg, kf, df, updS lf i 1) := by rw [tRun_s hq, h124]; exact tStep_bar
          exact K170 (a + 1) 2 dg kf df (updS lf i 1) _ v3 (by omega) hq9 (Or.inr rfl) hdf (fun _ _ => by decide) (by
            intro j hj
            have h9 := htold j hj
            rw [pk_un (by omega), pk_un (by omega), pk_un (by omega), updS_n _ _ (by omega)]
            exact h9) (by rw [pk_un (by omega)]; exact hti) (by rw [pk_us, updS_s]; rfl)
      have K79 : ∀ (v3 : Int32), ((v3 = 1 ∧ dg < 2 ∧ 49 ≤ tx a ∧ tx a ≤ 53) ∨ (v3 = 0 ∧ tx a = 46)) → a < n → P 0 0 79 [(0, .ref M), (1, .int (nI dg)), (2, .int x), (3, .int v3)] [] [(M, ob 5 (mF A ke ty th (nI a) 0 bo ot il)), (A 3, aI G 60 f3), (A 4, aI G 48 tl)] := by
        intro v3 h3 han
        refine st_iload_n C (dk DX6_isText_1 4 rfl) rfl ?_
        refine st_iload_n C (dk DX6_isText_1 5 rfl) rfl ?_
        refine st_if_eq C (tgt := 88) (dk DX6_isText_1 6 rfl) (by decide) (fun c_81 => ?_) (fun c_81 => ?_)
        · refine st_iconst C (v := 0) (dk DX6_isText_1 9 rfl) (by decide) ?_
          refine st_iadd C (dk DX6_isText_1 10 rfl) ?_
          refine st_istore_n C (dk DX6_isText_1 11 rfl) (by decide) rfl ?_
          refine st_aload_n C (dk DX6_isText_1 12 rfl) rfl ?_
          refine st_get C fl_RX6_22 (dk DX6_isText_1 13 rfl) 0 rfl rfl ?_
          refine st_iload_n C (dk DX6_isText_1 14 rfl) rfl ?_
          refine st_iload_n C (dk DX6_isText_1 15 rfl) rfl ?_
          refine st_if_eq C (tgt := 115) (dk DX6_isText_1 16 rfl) (by decide) (fun c_97 => ?_) (fun c_97 => ?_)
          · refine st_iconst C (v := 0) (dk DX6_isText_1 25 rfl) (by decide) ?_
            refine st_iast C (dk DX6_isText_1 26 rfl) 2 rfl (vp_nI hx (by omega) (by decide)) ?_
            refine st_aload_n C (dk DX6_isText_1 27 rfl) rfl ?_
            refine st_dup C (dk DX6_isText_1 28 rfl) rfl ?_
            refine st_get C fl_RX6_132 (dk DX6_isText_1 29 rfl) 0 rfl rfl ?_
            refine st_iconst C (v := 1) (dk DX6_isText_1 30 rfl) (by decide) ?_
            refine st_iadd C (dk DX6_isText_1 31 rfl) ?_
            refine st_put C fl_RX6_132 fc_5 fw_5_7 (dk DX6_isText_1 32 rfl) 0 rfl rfl rfl (Nat.le_of_ble_eq_true rfl) ?_
            rw [nI_1 a]
            have hki : x.toNatClampNeg = i := cl_nI hx (by omega)
            rw [hki]
            rw [Int32.add_zero]
            have g1 : tx a = 46 := (h3.resolve_left (fun h => by rw [c_81] at h; exact absurd h.1 (by decide))).2
            exact K127 (a + 1) dg kf df lf _ v3 (by omega) (by rw [tRun_s hq, g1]; exact tStep_dot (by omega)) hdf hlf (by
              intro j hj
              have h9 := htold j hj
              rw [pk_un (by omega), pk_un (by omega), pk_un (by omega)]
              exact h9) (by rw [pk_us, hkf]; rfl)
          · exact absurd c_81 c_97
        · refine st_iconst C (v := 1) (dk DX6_isText_1 7 rfl) (by decide) ?_
          refine st_goto C (tgt := 89) (dk DX6_isText_1 8 rfl) (by decide) ?_
          refine st_iadd C (dk DX6_isText_1 10 rfl) ?_
          refine st_istore_n C (dk DX6_isText_1 11 rfl) (by decide) rfl ?_
          refine st_aload_n C (dk DX6_isText_1 12 rfl) rfl ?_
          refine st_get C fl_RX6_22 (dk DX6_isText_1 13 rfl) 0 rfl rfl ?_
          refine st_iload_n C (dk DX6_isText_1 14 rfl) rfl ?_
          refine st_iload_n C (dk DX6_isText_1 15 rfl) rfl ?_
          refine st_if_eq C (tgt := 115) (dk DX6_isText_1 16 rfl) (by decide) (fun c_97 => ?_) (fun c_97 => ?_)
          · exact absurd c_97 c_81
          · refine st_aload_n C (dk DX6_isText_1 17 rfl) rfl ?_
            refine st_get C fl_RX6_19 (dk DX6_isText_1 18 rfl) 0 rfl rfl ?_
            refine st_aload_n C (dk DX6_isText_1 19 rfl) rfl ?_
            refine st_get C fl_RX6_132 (dk DX6_isText_1 20 rfl) 0 rfl rfl ?_
            refine st_iald C (dk DX6_isText_1 21 rfl) 1 rfl (vp_nI rfl (by omega) (by decide)) ?_
            refine st_bipush C (v := 48) (dk DX6_isText_1 22 rfl) (by decide) ?_
            refine st_isub C (dk DX6_isText_1 23 rfl) ?_
            refine st_goto C (tgt := 116) (dk DX6_isText_1 24 rfl) (by decide) ?_
            refine st_iast C (dk DX6_isText_1 26 rfl) 2 rfl (vp_nI hx (by omega) (by decide)) ?_
            refine st_aload_n C (dk DX6_isText_1 27 rfl) rfl ?_
            refine st_dup C (dk DX6_isText_1 28 rfl) rfl ?_
            refine st_get C fl_RX6_132 (dk DX6_isText_1 29 rfl) 0 rfl rfl ?_
            refine st_iconst C (v := 1) (dk DX6_isText_1 30 rfl) (by decide) ?_
            refine st_iadd C (dk DX6_isText_1 31 rfl) ?_
            refine st_put C fl_RX6_132 fc_5 fw_5_7 (dk DX6_isText_1 32 rfl) 0 rfl rfl rfl (Nat.le_of_ble_eq_true rfl) ?_
            rw [nI_1 a]
            have hki : x.toNatClampNeg = i := cl_nI hx (by omega)
            rw [hki]
            rw [nI_1 dg]
            obtain ⟨-, hdg, g1, g2⟩ := h3.resolve_right (fun h => c_81 h.1)
            have hv : f3 (nI a).toNatClampNeg - 48 = nI (tx a - 48) := by rw [nI_clamp (by omega), (ht a han).1, show (48 : Int32) = nI 48 from rfl, pk_sub (by omega)]
            rw [hv]
            exact K127 (a + 1) (dg + 1) (updS kf i (tx a - 48)) df lf _ v3 (by omega) (by rw [tRun_s hq]; exact tStep_dig g1 g2 (by omega) hdg) hdf hlf (by
              intro j hj
              have h9 := htold j hj
              rw [pk_un (by omega), pk_un (by omega), pk_un (by omega), updS_n _ _ (by omega)]
              exact h9) (by rw [pk_us, updS_s])
      refine st_iload_n C (dk DX6_isText_0 10 rfl) rfl ?_
      refine st_bipush C (v := 16) (dk DX6_isText_0 11 rfl) (by decide) ?_
      refine st_icmp_ge C (tgt := 246) (dk DX6_isText_0 12 rfl) (by decide) (fun c_17 => ?_) (fun c_17 => ?_)
      · exact absurd ((ge_nI (a := 16) (i := i) (by decide) (by omega) rfl hx).mp c_17) (by omega)
      · refine st_iload_n C (dk DX6_isText_0 13 rfl) rfl ?_
        refine st_iconst C (v := 2) (dk DX6_isText_0 14 rfl) (by decide) ?_
        refine st_icmp_ge C (tgt := 40) (dk DX6_isText_0 15 rfl) (by decide) (fun c_22 => ?_) (fun c_22 => ?_)
        · refine st_iconst C (v := 0) (dk DX6_isText_0 23 rfl) (by decide) ?_
          refine st_istore_n C (dk DX6_isText_0 24 rfl) (by decide) rfl ?_
          refine st_iload_n C (dk DX6_isText_0 25 rfl) rfl ?_
          refine st_if_ne C (tgt := 79) (dk DX6_isText_0 26 rfl) (by decide) (fun c_43 => ?_) (fun c_43 => ?_)
          · exact absurd rfl c_43
          · refine st_aload_n C (dk DX6_isText_0 27 rfl) rfl ?_
            refine st_bipush C (v := 46) (dk DX6_isText_0 28 rfl) (by decide) ?_
            refine st_bipush C (v := 46) (dk DX6_isText_0 29 rfl) (by decide) ?_
            refine st_cV C (k_X6_isAt l G (lo := 46) (hi := 46) hty hn ht rfl (by omega) rfl rfl (by decide) (by decide)) mf_X6_isAt mi_X6_isAt ml_RX6_138 (dk DX6_isText_0 30 rfl) [0, 1] rfl rfl rfl rfl (Nat.le_of_ble_eq_true rfl) rfl rfl ⟨Nat.le_of_ble_eq_true rfl, Nat.le_of_ble_eq_true rfl⟩ ⟨Nat.zero_le _, Nat.zero_le _⟩ (fun r9 w9 hq9 => ?_)
            obtain ⟨rfl, rfl⟩ := hq9
            refine st_if_ne C (tgt := 79) (dk DX6_isText_0 31 rfl) (by decide) (fun c_54 => ?_) (fun c_54 => ?_)
            · have hD := b01_t rfl c_54
              exact K79 0 (Or.inr ⟨rfl, by omega⟩) hD.1
            · refine st_aload_n C (dk DX6_isText_0 32 rfl) rfl ?_
              refine st_aload_n C (dk DX6_isText_0 33 rfl) rfl ?_
              refine st_get C fl_RX6_132 (dk DX6_isText_0 34 rfl) 0 rfl rfl ?_
              refine st_aload_n C (dk DX6_isText_0 35 rfl) rfl ?_
              refine st_get C fl_RX6_129 (dk DX6_isText_0 36 rfl) 0 rfl rfl ?_
              refine st_icmp_ge C (tgt := 73) (dk DX6_isText_0 37 rfl) (by decide) (fun c_66 => ?_) (fun c_66 => ?_)
              · refine st_iconst C (v := 0) (dk DX6_isText_1 0 rfl) (by decide) ?_
                refine st_put C fl_RX6_135 fc_5 fw_5_8 (dk DX6_isText_1 1 rfl) 0 rfl (by rfl) (by rfl) (Nat.le_of_ble_eq_true rfl) ?_
                refine st_iconst C (v := 0) (dk DX6_isText_1 2 rfl) (by decide) ?_
                refine Rr 0 0 _ _ _ _ _ _ (Nat.zero_le _) (Nat.zero_le _) (dk DX6_isText_1 3 rfl) (.inr (.inr (.inl ⟨_, rfl, (by first | exact Or.inl rfl | exact Or.inr rfl | assumption), rfl, rfl, rfl⟩))) rfl ?_
                have ha9 : a = n := by have := (ge_nI (a := n) (i := a) (y := nI a) (by omega) (by omega) hty rfl).mp c_66; omega
                subst ha9
                have hfe : fe tx a = a := fe_n hq
                rw [hfe, if_neg (Nat.lt_irrefl a)]
                exact ⟨rfl, i, la, dg, kf, df, lf, tl, hq, by rw [if_neg (fun h => by omega)], fun h => by omega, rfl⟩
              · refine st_iconst C (v := 1) (dk DX6_isText_0 38 rfl) (by decide) ?_
                refine st_goto C (tgt := 74) (dk DX6_isText_0 39 rfl) (by decide) ?_
                refine st_put C fl_RX6_135 fc_5 fw_5_8 (dk DX6_isText_1 1 rfl) 0 rfl (by rfl) (by rfl) (Nat.le_of_ble_eq_true rfl) ?_
                refine st_iconst C (v := 0) (dk DX6_isText_1 2 rfl) (by decide) ?_
                refine Rr 0 0 _ _ _ _ _ _ (Nat.zero_le _) (Nat.zero_le _) (dk DX6_isText_1 3 rfl) (.inr (.inr (.inl ⟨_, rfl, (by first | exact Or.inl rfl | exact Or.inr rfl | assumption), rfl, rfl, rfl⟩))) rfl ?_
                have ha9 : a < n := by have := mt (ge_nI (a := n) (i := a) (y := nI a) (by omega) (by omega) hty rfl).mpr c_66; omega
                have hfe : fe tx n = a := fe_no hq (tStep_no (fun h _ => b01_f rfl c_54 ⟨ha9, by omega, by omega⟩) (fun _ _ h => by have := (ge_nI (a := 2) (i := dg) (x := 2) (y := nI dg) (by decide) (by omega) rfl rfl).mp c_22; omega) (hlk ha9) (hlk2 ha9)) ha9
                rw [hfe, if_pos ha9]
                exact ⟨rfl, i, la, dg, kf, df, lf, tl, hq, by rw [if_neg (fun h => by omega)], fun h => by omega, rfl⟩
        · refine st_aload_n C (dk DX6_isText_0 16 rfl) rfl ?_
          refine st_bipush C (v := 49) (dk DX6_isText_0 17 rfl) (by decide) ?_
          refine st_bipush C (v := 53) (dk DX6_isText_0 18 rfl) (by decide) ?_
          refine st_cV C (k_X6_isAt l G (lo := 49) (hi := 53) hty hn ht rfl (by omega) rfl rfl (by decide) (by decide)) mf_X6_isAt mi_X6_isAt ml_RX6_138 (dk DX6_isText_0 19 rfl) [0, 1] rfl rfl rfl rfl (Nat.le_of_ble_eq_true rfl) rfl rfl ⟨Nat.le_of_ble_eq_true rfl, Nat.le_of_ble_eq_true rfl⟩ ⟨Nat.zero_le _, Nat.zero_le _⟩ (fun r9 w9 hq9 => ?_)
          obtain ⟨rfl, rfl⟩ := hq9
          refine st_if_eq C (tgt := 40) (dk DX6_isText_0 20 rfl) (by decide) (fun c_33 => ?_) (fun c_33 => ?_)
          · refine st_iconst C (v := 0) (dk DX6_isText_0 23 rfl) (by decide) ?_
            refine st_istore_n C (dk DX6_isText_0 24 rfl) (by decide) rfl ?_
            refine st_iload_n C (dk DX6_isText_0 25 rfl) rfl ?_
            refine st_if_ne C (tgt := 79) (dk DX6_isText_0 26 rfl) (by decide) (fun c_43 => ?_) (fun c_43 => ?_)
            · exact absurd rfl c_43
            · refine st_aload_n C (dk DX6_isText_0 27 rfl) rfl ?_
              refine st_bipush C (v := 46) (dk DX6_isText_0 28 rfl) (by decide) ?_
              refine st_bipush C (v := 46) (dk DX6_isText_0 29 rfl) (by decide) ?_
              refine st_cV C (k_X6_isAt l G (lo := 46) (hi := 46) hty hn ht rfl (by omega) rfl rfl (by decide) (by decide)) mf_X6_isAt mi_X6_isAt ml_RX6_138 (dk DX6_isText_0 30 rfl) [0, 1] rfl rfl rfl rfl (Nat.le_of_ble_eq_true rfl) rfl rfl ⟨Nat.le_of_ble_eq_true rfl, Nat.le_of_ble_eq_true rfl⟩ ⟨Nat.zero_le _, Nat.zero_le _⟩ (fun r9 w9 hq9 => ?_)
              obtain ⟨rfl, rfl⟩ := hq9
              refine st_if_ne C (tgt := 79) (dk DX6_isText_0 31 rfl) (by decide) (fun c_54 => ?_) (fun c_54 => ?_)
              · have hD := b01_t rfl c_54
                exact K79 0 (Or.inr ⟨rfl, by omega⟩) hD.1
              · refine st_aload_n C (dk DX6_isText_0 32 rfl) rfl ?_
                refine st_aload_n C (dk DX6_isText_0 33 rfl) rfl ?_
                refine st_get C fl_RX6_132 (dk DX6_isText_0 34 rfl) 0 rfl rfl ?_
                refine st_aload_n C (dk DX6_isText_0 35 rfl) rfl ?_
                refine st_get C fl_RX6_129 (dk DX6_isText_0 36 rfl) 0 rfl rfl ?_
                refine st_icmp_ge C (tgt := 73) (dk DX6_isText_0 37 rfl) (by decide) (fun c_66 => ?_) (fun c_66 => ?_)
                · refine st_iconst C (v := 0) (dk DX6_isText_1 0 rfl) (by decide) ?_
                  refine st_put C fl_RX6_135 fc_5 fw_5_8 (dk DX6_isText_1 1 rfl) 0 rfl (by rfl) (by rfl) (Nat.le_of_ble_eq_true rfl) ?_
                  refine st_iconst C (v := 0) (dk DX6_isText_1 2 rfl) (by decide) ?_
                  refine Rr 0 0 _ _ _ _ _ _ (Nat.zero_le _) (Nat.zero_le _) (dk DX6_isText_1 3 rfl) (.inr (.inr (.inl ⟨_, rfl, (by first | exact Or.inl rfl | exact Or.inr rfl | assumption), rfl, rfl, rfl⟩))) rfl ?_
                  have ha9 : a = n := by have := (ge_nI (a := n) (i := a) (y := nI a) (by omega) (by omega) hty rfl).mp c_66; omega
                  subst ha9
                  have hfe : fe tx a = a := fe_n hq
                  rw [hfe, if_neg (Nat.lt_irrefl a)]
                  exact ⟨rfl, i, la, dg, kf, df, lf, tl, hq, by rw [if_neg (fun h => by omega)], fun h => by omega, rfl⟩
                · refine st_iconst C (v := 1) (dk DX6_isText_0 38 rfl) (by decide) ?_
                  refine st_goto C (tgt := 74) (dk DX6_isText_0 39 rfl) (by decide) ?_
                  refine st_put C fl_RX6_135 fc_5 fw_5_8 (dk DX6_isText_1 1 rfl) 0 rfl (by rfl) (by rfl) (Nat.le_of_ble_eq_true rfl) ?_
                  refine st_iconst C (v := 0) (dk DX6_isText_1 2 rfl) (by decide) ?_
                  refine Rr 0 0 _ _ _ _ _ _ (Nat.zero_le _) (Nat.zero_le _) (dk DX6_isText_1 3 rfl) (.inr (.inr (.inl ⟨_, rfl, (by first | exact Or.inl rfl | exact Or.inr rfl | assumption), rfl, rfl, rfl⟩))) rfl ?_
                  have ha9 : a < n := by have := mt (ge_nI (a := n) (i := a) (y := nI a) (by omega) (by omega) hty rfl).mpr c_66; omega
                  have hfe : fe tx n = a := fe_no hq (tStep_no (fun h _ => b01_f rfl c_54 ⟨ha9, by omega, by omega⟩) (fun h1 h2 _ => b01_f rfl c_33 ⟨ha9, h1, h2⟩) (hlk ha9) (hlk2 ha9)) ha9
                  rw [hfe, if_pos ha9]
                  exact ⟨rfl, i, la, dg, kf, df, lf, tl, hq, by rw [if_neg (fun h => by omega)], fun h => by omega, rfl⟩
          · refine st_iconst C (v := 1) (dk DX6_isText_0 21 rfl) (by decide) ?_
            refine st_goto C (tgt := 41) (dk DX6_isText_0 22 rfl) (by decide) ?_
            refine st_istore_n C (dk DX6_isText_0 24 rfl) (by decide) rfl ?_
            refine st_iload_n C (dk DX6_isText_0 25 rfl) rfl ?_
            refine st_if_ne C (tgt := 79) (dk DX6_isText_0 26 rfl) (by decide) (fun c_43 => ?_) (fun c_43 => ?_)
            · have hD := b01_t rfl c_33
              exact K79 1 (Or.inl ⟨rfl, by have := mt (ge_nI (a := 2) (i := dg) (x := 2) (y := nI dg) (by decide) (by omega) rfl rfl).mpr c_22; omega, hD.2.1, hD.2.2⟩) hD.1
            · exact absurd c_43 (by decide)
  refine st_aload_n C (dk DX6_isText_0 0 rfl) rfl ?_
  refine st_iconst C (v := 0) (dk DX6_isText_0 1 rfl) (by decide) ?_
  refine st_put C fl_RX6_132 fc_5 fw_5_7 (dk DX6_isText_0 2 rfl) 0 rfl rfl rfl (Nat.le_of_ble_eq_true rfl) ?_
  refine st_aload_n C (dk DX6_isText_0 3 rfl) rfl ?_
  refine st_iconst C (v := 0) (dk DX6_isText_0 4 rfl) (by decide) ?_
  refine st_put C fl_RX6_135 fc_5 fw_5_8 (dk DX6_isText_0 5 rfl) 0 rfl (by rfl) (by rfl) (Nat.le_of_ble_eq_true rfl) ?_
  refine st_iconst C (v := 0) (dk DX6_isText_0 6 rfl) (by decide) ?_
  refine st_istore_n C (dk DX6_isText_0 7 rfl) (by decide) rfl ?_
  refine st_iconst C (v := 0) (dk DX6_isText_0 8 rfl) (by decide) ?_
  refine st_istore_n C (dk DX6_isText_0 9 rfl) (by decide) rfl ?_
  exact loop 16 0 _ 0 0 0 z0 z0 z0 _ (by omega) rfl (Nat.zero_le _) rfl (fun _ _ => by decide) (fun _ _ _ h => by omega) (fun j hj => absurd hj (Nat.not_lt_zero j))
