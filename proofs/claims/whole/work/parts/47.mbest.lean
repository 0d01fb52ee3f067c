/-! the reference: best, bestFold -/
noncomputable def bstI (s : mS) : Nat → Int32 × Int32 × Int32
  | 0 => (0, 0, 0)
  | n + 1 => if (bstI s n).2.1 < nI (cnt (fS (updS s 0 (n + 2))) 16) ∨ (nI (cnt (fS (updS s 0 (n + 2))) 16) = (bstI s n).2.1 ∧ sumI (fS (updS s 0 (n + 2))) 16 < (bstI s n).2.2) then (nI (n + 2), nI (cnt (fS (updS s 0 (n + 2))) 16), sumI (fS (updS s 0 (n + 2))) 16) else bstI s n
theorem bst_T {s : mS} {n : Nat} {a1 a2 a3 : Int32} (h : bstI s n = (a1, a2, a3)) (hc : a2 < nI (cnt (fS (updS s 0 (n + 2))) 16) ∨ (nI (cnt (fS (updS s 0 (n + 2))) 16) = a2 ∧ sumI (fS (updS s 0 (n + 2))) 16 < a3)) : bstI s (n + 1) = (nI (n + 2), nI (cnt (fS (updS s 0 (n + 2))) 16), sumI (fS (updS s 0 (n + 2))) 16) := by
  show (if _ then _ else _) = _
  rw [h, if_pos hc]
theorem bst_F {s : mS} {n : Nat} {a1 a2 a3 : Int32} (h : bstI s n = (a1, a2, a3)) (hc : ¬ (a2 < nI (cnt (fS (updS s 0 (n + 2))) 16) ∨ (nI (cnt (fS (updS s 0 (n + 2))) 16) = a2 ∧ sumI (fS (updS s 0 (n + 2))) 16 < a3))) : bstI s (n + 1) = (a1, a2, a3) := by
  show (if _ then _ else _) = _
  rw [h, if_neg hc]
set_option maxHeartbeats 4000000 in
set_option maxRecDepth 100000 in
theorem k_X6_best (l : Launch) (G : wG) {M : Nat} {A : Nat → Nat} {ke ty th ap ft bo ot il : Int32} {s : mS} {f : Nat → Int32} {qu fr by9 fa fs : Nat → Int32} {f1 : Nat → Int32} (hf : hd53 f s) (hok : mOk s) : Con0 l G yX6_best cX6_best 8 (some .int) 7 [.ref M] [(M, ob 5 (mF A ke ty th ap ft bo ot il)), (A 0, aI G 53 f), (A 1, aI G 53 f1), (A 5, aI G 4624 qu), (A 6, aI G 4624 fr), (A 7, aI G 4624 by9), (A 8, aI G 4624 fa), (A 9, aI G 16 fs)] (fun r w9 => r = some (.int (bstI s 7).1) ∧ ∃ (bo9 ot9 : Int32) (f19 qu9 fr9 by99 fa9 fs9 : Nat → Int32), w9 = [(M, ob 5 (mF A ke ty th ap ft bo9 ot9 0)), (A 0, aI G 53 f), (A 1, aI G 53 f19), (A 5, aI G 4624 qu9), (A 6, aI G 4624 fr9), (A 7, aI G 4624 by99), (A 8, aI G 4624 fa9), (A 9, aI G 16 fs9)]) := by
  refine Con.mk (by decide +kernel) (Nat.le_of_ble_eq_true rfl) (fun P C Rr => ?_)
  have h02 := hok.1
  have outer : ∀ (m i : Nat) (x : Int32) (n : Nat) (a1 a2 a3 bo ot il : Int32) (f1 qu fr by9 fa fs : Nat → Int32), i + m = 9 → x = nI i → i = n + 2 → bstI s n = (a1, a2, a3) → (0 < n → il = 0) → P 0 0 9 [(0, .ref M), (1, .int a1), (2, .int a2), (3, .int a3), (4, .int x)] [] [(M, ob 5 (mF A ke ty th ap ft bo ot il)), (A 0, aI G 53 f), (A 1, aI G 53 f1), (A 5, aI G 4624 qu), (A 6, aI G 4624 fr), (A 7, aI G 4624 by9), (A 8, aI G 4624 fa), (A 9, aI G 16 fs)] := by
    intro m
    induction m with
    | zero =>
      intro i x n a1 a2 a3 bo ot il f1 qu fr by9 fa fs hi hx hin hb hil9
      obtain rfl : i = 9 := by omega
      refine st_iload C (dk DX6_best_0 8 rfl) rfl ?_
      refine st_bipush C (v := 9) (dk DX6_best_0 9 rfl) (by decide) ?_
      refine st_icmp_ge C (tgt := 137) (dk DX6_best_0 10 rfl) (by decide) (fun c_13 => ?_) (fun c_13 => ?_)
      · refine st_iload_n C (dk DX6_best_1 32 rfl) rfl ?_
        refine Rr 0 0 _ _ _ _ _ _ (Nat.zero_le _) (Nat.zero_le _) (dk DX6_best_1 33 rfl) (.inr (.inl ⟨_, rfl, rfl, rfl, rfl⟩)) rfl ?_
        obtain rfl : n = 7 := by omega
        obtain rfl : il = 0 := hil9 (by omega)
        exact ⟨rfl, by rw [hb], bo, ot, f1, qu, fr, by9, fa, fs, rfl⟩
      · exact absurd ((ge_nI (a := 9) (i := 9) (by decide) (by decide) rfl hx).mpr (Nat.le_refl _)) c_13
    | succ m ih =>
      intro i x n a1 a2 a3 bo ot il f1 qu fr by9 fa fs hi hx hin hb hil9
      have hxn : x = nI (n + 2) := by rw [hx, hin]
      subst hxn
      have hok2 : mOk (updS s 0 (n + 2)) := hok.fold (by omega) (by omega)
      refine st_iload C (dk DX6_best_0 8 rfl) rfl ?_
      refine st_bipush C (v := 9) (dk DX6_best_0 9 rfl) (by decide) ?_
      refine st_icmp_ge C (tgt := 137) (dk DX6_best_0 10 rfl) (by decide) (fun c_13 => ?_) (fun c_13 => ?_)
      · exact absurd ((ge_nI (a := 9) (i := i) (by decide) (by omega) rfl hx).mp c_13) (by omega)
      · refine st_aload_n C (dk DX6_best_0 11 rfl) rfl ?_
        refine st_iconst C (v := 0) (dk DX6_best_0 12 rfl) (by decide) ?_
        refine st_iload C (dk DX6_best_0 13 rfl) rfl ?_
        refine st_cV C (k_X6_with l G hf hok2 rfl (by decide) rfl) mf_X6_with mi_X6_with ml_RX6_167 (dk DX6_best_0 14 rfl) [0, 1, 2, 3, 4, 5, 6, 7] rfl rfl rfl rfl (Nat.le_of_ble_eq_true rfl) rfl rfl ⟨Nat.le_of_ble_eq_true rfl, Nat.le_of_ble_eq_true rfl⟩ ⟨Nat.zero_le _, Nat.zero_le _⟩ (fun r9 w9 hq9 => ?_)
        obtain ⟨rfl, bo20, ot20, f120, qu20, fr20, by20, fa20, fs20, hM20, rfl⟩ := hq9
        refine st_istore C (dk DX6_best_0 15 rfl) (by decide) rfl ?_
        have inner : ∀ (mj j : Nat) (z : Int32) (acc : Int32), j + mj = 16 → z = nI j → acc = sumI (fS (updS s 0 (n + 2))) j → P 0 0 31 [(0, .ref M), (1, .int a1), (2, .int a2), (3, .int a3), (4, .int (nI (n + 2))), (5, .int (nI (cnt (fS (updS s 0 (n + 2))) 16))), (6, .int acc), (7, .int z)] [] [(M, ob 5 (mF A ke ty th ap ft bo20 ot20 0)), (A 0, aI G 53 f), (A 1, aI G 53 f120), (A 5, aI G 4624 qu20), (A 6, aI G 4624 fr20), (A 7, aI G 4624 by20), (A 8, aI G 4624 fa20), (A 9, aI G 16 fs20)] := by
          intro mj
          induction mj with
          | zero =>
            intro j z acc hij hz hacc
            obtain rfl : j = 16 := by omega
            subst hacc
            refine st_iload C (dk DX6_best_0 20 rfl) rfl ?_
            refine st_bipush C (v := 16) (dk DX6_best_0 21 rfl) (by decide) ?_
            refine st_icmp_ge C (tgt := 70) (dk DX6_best_0 22 rfl) (by decide) (fun c_35 => ?_) (fun c_35 => ?_)
            · refine st_iload C (dk DX6_best_0 39 rfl) rfl ?_
              refine st_iload_n C (dk DX6_best_1 0 rfl) rfl ?_
              refine st_icmp_gt C (tgt := 88) (dk DX6_best_1 1 rfl) (by decide) (fun c_73 => ?_) (fun c_73 => ?_)
              · refine st_iconst C (v := 1) (dk DX6_best_1 8 rfl) (by decide) ?_
                refine st_goto C (tgt := 93) (dk DX6_best_1 9 rfl) (by decide) ?_
                refine st_istore C (dk DX6_best_1 11 rfl) (by decide) rfl ?_
                refine st_iload C (dk DX6_best_1 12 rfl) rfl ?_
                refine st_if_eq C (tgt := 105) (dk DX6_best_1 13 rfl) (by decide) (fun c_97 => ?_) (fun c_97 => ?_)
                · exact absurd c_97 (by decide)
                · refine st_iload C (dk DX6_best_1 14 rfl) rfl ?_
                  refine st_goto C (tgt := 106) (dk DX6_best_1 15 rfl) (by decide) ?_
                  refine st_istore_n C (dk DX6_best_1 17 rfl) (by decide) rfl ?_
                  refine st_iload C (dk DX6_best_1 18 rfl) rfl ?_
                  refine st_if_eq C (tgt := 117) (dk DX6_best_1 19 rfl) (by decide) (fun c_109 => ?_) (fun c_109 => ?_)
                  · exact absurd c_109 (by decide)
                  · refine st_iload C (dk DX6_best_1 20 rfl) rfl ?_
                    refine st_goto C (tgt := 118) (dk DX6_best_1 21 rfl) (by decide) ?_
                    refine st_istore_n C (dk DX6_best_1 23 rfl) (by decide) rfl ?_
                    refine st_iload C (dk DX6_best_1 24 rfl) rfl ?_
                    refine st_if_eq C (tgt := 129) (dk DX6_best_1 25 rfl) (by decide) (fun c_121 => ?_) (fun c_121 => ?_)
                    · exact absurd c_121 (by decide)
                    · refine st_iload C (dk DX6_best_1 26 rfl) rfl ?_
                      refine st_goto C (tgt := 130) (dk DX6_best_1 27 rfl) (by decide) ?_
                      refine st_istore_n C (dk DX6_best_1 29 rfl) (by decide) rfl ?_
                      refine st_iinc C (dk DX6_best_1 30 rfl) rfl (iadd_ofInt _ (1) (1) (by decide)) (by decide) rfl ?_
                      refine st_goto C (tgt := 9) (dk DX6_best_1 31 rfl) (by decide) ?_
                      refine st_lv C [0, 1, 2, 3, 4] rfl ?_
                      exact ih (n + 3) _ (n + 1) _ _ _ _ _ _ _ _ _ _ _ _ (by omega) (nI_1 (n + 2)) rfl (bst_T hb (Or.inl c_73)) (fun _ => rfl)
              · refine st_iload C (dk DX6_best_1 2 rfl) rfl ?_
                refine st_iload_n C (dk DX6_best_1 3 rfl) rfl ?_
                refine st_icmp_ne C (tgt := 92) (dk DX6_best_1 4 rfl) (by decide) (fun c_79 => ?_) (fun c_79 => ?_)
                · refine st_iconst C (v := 0) (dk DX6_best_1 10 rfl) (by decide) ?_
                  refine st_istore C (dk DX6_best_1 11 rfl) (by decide) rfl ?_
                  refine st_iload C (dk DX6_best_1 12 rfl) rfl ?_
                  refine st_if_eq C (tgt := 105) (dk DX6_best_1 13 rfl) (by decide) (fun c_97 => ?_) (fun c_97 => ?_)
                  · refine st_iload_n C (dk DX6_best_1 16 rfl) rfl ?_
                    refine st_istore_n C (dk DX6_best_1 17 rfl) (by decide) rfl ?_
                    refine st_iload C (dk DX6_best_1 18 rfl) rfl ?_
                    refine st_if_eq C (tgt := 117) (dk DX6_best_1 19 rfl) (by decide) (fun c_109 => ?_) (fun c_109 => ?_)
                    · refine st_iload_n C (dk DX6_best_1 22 rfl) rfl ?_
                      refine st_istore_n C (dk DX6_best_1 23 rfl) (by decide) rfl ?_
                      refine st_iload C (dk DX6_best_1 24 rfl) rfl ?_
                      refine st_if_eq C (tgt := 129) (dk DX6_best_1 25 rfl) (by decide) (fun c_121 => ?_) (fun c_121 => ?_)
                      · refine st_iload_n C (dk DX6_best_1 28 rfl) rfl ?_
                        refine st_istore_n C (dk DX6_best_1 29 rfl) (by decide) rfl ?_
                        refine st_iinc C (dk DX6_best_1 30 rfl) rfl (iadd_ofInt _ (1) (1) (by decide)) (by decide) rfl ?_
                        refine st_goto C (tgt := 9) (dk DX6_best_1 31 rfl) (by decide) ?_
                        refine st_lv C [0, 1, 2, 3, 4] rfl ?_
                        exact ih (n + 3) _ (n + 1) _ _ _ _ _ _ _ _ _ _ _ _ (by omega) (nI_1 (n + 2)) rfl (bst_F hb (fun h => h.elim (fun h => c_73 h) (fun h => c_79 h.1))) (fun _ => rfl)
                      · exact absurd rfl c_121
                    · exact absurd rfl c_109
                  · exact absurd rfl c_97
                · refine st_iload C (dk DX6_best_1 5 rfl) rfl ?_
                  refine st_iload_n C (dk DX6_best_1 6 rfl) rfl ?_
                  refine st_icmp_ge C (tgt := 92) (dk DX6_best_1 7 rfl) (by decide) (fun c_85 => ?_) (fun c_85 => ?_)
                  · refine st_iconst C (v := 0) (dk DX6_best_1 10 rfl) (by decide) ?_
                    refine st_istore C (dk DX6_best_1 11 rfl) (by decide) rfl ?_
                    refine st_iload C (dk DX6_best_1 12 rfl) rfl ?_
                    refine st_if_eq C (tgt := 105) (dk DX6_best_1 13 rfl) (by decide) (fun c_97 => ?_) (fun c_97 => ?_)
                    · refine st_iload_n C (dk DX6_best_1 16 rfl) rfl ?_
                      refine st_istore_n C (dk DX6_best_1 17 rfl) (by decide) rfl ?_
                      refine st_iload C (dk DX6_best_1 18 rfl) rfl ?_
                      refine st_if_eq C (tgt := 117) (dk DX6_best_1 19 rfl) (by decide) (fun c_109 => ?_) (fun c_109 => ?_)
                      · refine st_iload_n C (dk DX6_best_1 22 rfl) rfl ?_
                        refine st_istore_n C (dk DX6_best_1 23 rfl) (by decide) rfl ?_
                        refine st_iload C (dk DX6_best_1 24 rfl) rfl ?_
                        refine st_if_eq C (tgt := 129) (dk DX6_best_1 25 rfl) (by decide) (fun c_121 => ?_) (fun c_121 => ?_)
                        · refine st_iload_n C (dk DX6_best_1 28 rfl) rfl ?_
                          refine st_istore_n C (dk DX6_best_1 29 rfl) (by decide) rfl ?_
                          refine st_iinc C (dk DX6_best_1 30 rfl) rfl (iadd_ofInt _ (1) (1) (by decide)) (by decide) rfl ?_
                          refine st_goto C (tgt := 9) (dk DX6_best_1 31 rfl) (by decide) ?_
                          refine st_lv C [0, 1, 2, 3, 4] rfl ?_
                          exact ih (n + 3) _ (n + 1) _ _ _ _ _ _ _ _ _ _ _ _ (by omega) (nI_1 (n + 2)) rfl (bst_F hb (fun h => h.elim (fun h => c_73 h) (fun h => absurd h.2 (Int32.not_lt.mpr c_85)))) (fun _ => rfl)
                        · exact absurd rfl c_121
                      · exact absurd rfl c_109
                    · exact absurd rfl c_97
                  · refine st_iconst C (v := 1) (dk DX6_best_1 8 rfl) (by decide) ?_
                    refine st_goto C (tgt := 93) (dk DX6_best_1 9 rfl) (by decide) ?_
                    refine st_istore C (dk DX6_best_1 11 rfl) (by decide) rfl ?_
                    refine st_iload C (dk DX6_best_1 12 rfl) rfl ?_
                    refine st_if_eq C (tgt := 105) (dk DX6_best_1 13 rfl) (by decide) (fun c_97 => ?_) (fun c_97 => ?_)
                    · exact absurd c_97 (by decide)
                    · refine st_iload C (dk DX6_best_1 14 rfl) rfl ?_
                      refine st_goto C (tgt := 106) (dk DX6_best_1 15 rfl) (by decide) ?_
                      refine st_istore_n C (dk DX6_best_1 17 rfl) (by decide) rfl ?_
                      refine st_iload C (dk DX6_best_1 18 rfl) rfl ?_
                      refine st_if_eq C (tgt := 117) (dk DX6_best_1 19 rfl) (by decide) (fun c_109 => ?_) (fun c_109 => ?_)
                      · exact absurd c_109 (by decide)
                      · refine st_iload C (dk DX6_best_1 20 rfl) rfl ?_
                        refine st_goto C (tgt := 118) (dk DX6_best_1 21 rfl) (by decide) ?_
                        refine st_istore_n C (dk DX6_best_1 23 rfl) (by decide) rfl ?_
                        refine st_iload C (dk DX6_best_1 24 rfl) rfl ?_
                        refine st_if_eq C (tgt := 129) (dk DX6_best_1 25 rfl) (by decide) (fun c_121 => ?_) (fun c_121 => ?_)
                        · exact absurd c_121 (by decide)
                        · refine st_iload C (dk DX6_best_1 26 rfl) rfl ?_
                          refine st_goto C (tgt := 130) (dk DX6_best_1 27 rfl) (by decide) ?_
                          refine st_istore_n C (dk DX6_best_1 29 rfl) (by decide) rfl ?_
                          refine st_iinc C (dk DX6_best_1 30 rfl) rfl (iadd_ofInt _ (1) (1) (by decide)) (by decide) rfl ?_
                          refine st_goto C (tgt := 9) (dk DX6_best_1 31 rfl) (by decide) ?_
                          refine st_lv C [0, 1, 2, 3, 4] rfl ?_
                          exact ih (n + 3) _ (n + 1) _ _ _ _ _ _ _ _ _ _ _ _ (by omega) (nI_1 (n + 2)) rfl (bst_T hb (Or.inr ⟨by first | exact Decidable.not_not.mp c_79 | exact c_79, by first | exact Int32.not_le.mp c_85 | exact c_85⟩)) (fun _ => rfl)
            · exact absurd ((ge_nI (a := 16) (i := 16) (by decide) (by decide) rfl hz).mpr (Nat.le_refl _)) c_35
          | succ mj ihj =>
            intro j z acc hij hz hacc
            have hfs : fs20 z.toNatClampNeg = fsOf (fS (updS s 0 (n + 2))) j := by rw [cl_nI hz (by omega)]; exact hM20.2.2.2 j (by omega)
            refine st_iload C (dk DX6_best_0 20 rfl) rfl ?_
            refine st_bipush C (v := 16) (dk DX6_best_0 21 rfl) (by decide) ?_
            refine st_icmp_ge C (tgt := 70) (dk DX6_best_0 22 rfl) (by decide) (fun c_35 => ?_) (fun c_35 => ?_)
            · exact absurd ((ge_nI (a := 16) (i := j) (by decide) (by omega) rfl hz).mp c_35) (by omega)
            · refine st_iload C (dk DX6_best_0 23 rfl) rfl ?_
              refine st_aload_n C (dk DX6_best_0 24 rfl) rfl ?_
              refine st_get C fl_RX6_37 (dk DX6_best_0 25 rfl) 0 rfl rfl ?_
              refine st_iload C (dk DX6_best_0 26 rfl) rfl ?_
              refine st_iald C (dk DX6_best_0 27 rfl) 7 rfl (vp_nI hz (by omega : j < 16) (by decide)) ?_
              refine st_iconst C (v := -1) (dk DX6_best_0 28 rfl) (by decide) ?_
              refine st_icmp_ne C (tgt := 55) (dk DX6_best_0 29 rfl) (by decide) (fun c_48 => ?_) (fun c_48 => ?_)
              · refine st_aload_n C (dk DX6_best_0 32 rfl) rfl ?_
                refine st_iload C (dk DX6_best_0 33 rfl) rfl ?_
                refine st_cV C (k_X6_steps l G hok2 hM20 hz (by omega)) mf_X6_steps mi_X6_steps ml_RX6_102 (dk DX6_best_0 34 rfl) [0, 6, 7] rfl rfl rfl rfl (Nat.le_of_ble_eq_true rfl) rfl rfl ⟨Nat.le_of_ble_eq_true rfl, Nat.le_of_ble_eq_true rfl⟩ ⟨Nat.zero_le _, Nat.zero_le _⟩ (fun r9 w9 hq9 => ?_)
                obtain ⟨rfl, rfl⟩ := hq9
                refine st_iadd C (dk DX6_best_0 35 rfl) ?_
                refine st_istore C (dk DX6_best_0 36 rfl) (by decide) rfl ?_
                refine st_iinc C (dk DX6_best_0 37 rfl) rfl (iadd_ofInt _ (1) (1) (by decide)) (by decide) rfl ?_
                refine st_goto C (tgt := 31) (dk DX6_best_0 38 rfl) (by decide) ?_
                exact ihj (j + 1) _ _ (by omega) (up_nI hz) (by
                  rw [hacc]
                  show _ = sumI (fS (updS s 0 (n + 2))) j + ln0 (fS (updS s 0 (n + 2))) j
                  cases hq : fi (fS (updS s 0 (n + 2))) j with
                  | none => rw [hfs, fsOf_none hq] at c_48; exact absurd rfl c_48
                  | some q => rw [lnOf_some hq]; unfold ln0; rw [hq])
              · refine st_iconst C (v := 0) (dk DX6_best_0 30 rfl) (by decide) ?_
                refine st_goto C (tgt := 61) (dk DX6_best_0 31 rfl) (by decide) ?_
                refine st_iadd C (dk DX6_best_0 35 rfl) ?_
                refine st_istore C (dk DX6_best_0 36 rfl) (by decide) rfl ?_
                refine st_iinc C (dk DX6_best_0 37 rfl) rfl (iadd_ofInt _ (1) (1) (by decide)) (by decide) rfl ?_
                refine st_goto C (tgt := 31) (dk DX6_best_0 38 rfl) (by decide) ?_
                exact ihj (j + 1) _ _ (by omega) (up_nI hz) (by
                  rw [hacc]
                  show _ = sumI (fS (updS s 0 (n + 2))) j + ln0 (fS (updS s 0 (n + 2))) j
                  cases hq : fi (fS (updS s 0 (n + 2))) j with
                  | none => unfold ln0; rw [hq]
                  | some q => rw [hfs, fsOf_some hq] at c_48; exact absurd c_48 (nI_m1 (by have := fS_emN hok2 (fi_lt' hq); omega)))
        refine st_iconst C (v := 0) (dk DX6_best_0 16 rfl) (by decide) ?_
        refine st_istore C (dk DX6_best_0 17 rfl) (by decide) rfl ?_
        refine st_iconst C (v := 0) (dk DX6_best_0 18 rfl) (by decide) ?_
        refine st_istore C (dk DX6_best_0 19 rfl) (by decide) rfl ?_
        exact inner 16 0 _ _ (by omega) rfl rfl
  refine st_iconst C (v := 0) (dk DX6_best_0 0 rfl) (by decide) ?_
  refine st_istore_n C (dk DX6_best_0 1 rfl) (by decide) rfl ?_
  refine st_iconst C (v := 0) (dk DX6_best_0 2 rfl) (by decide) ?_
  refine st_istore_n C (dk DX6_best_0 3 rfl) (by decide) rfl ?_
  refine st_iconst C (v := 0) (dk DX6_best_0 4 rfl) (by decide) ?_
  refine st_istore_n C (dk DX6_best_0 5 rfl) (by decide) rfl ?_
  refine st_iconst C (v := 2) (dk DX6_best_0 6 rfl) (by decide) ?_
  refine st_istore C (dk DX6_best_0 7 rfl) (by decide) rfl ?_
  exact outer 7 2 _ 0 _ _ _ _ _ _ _ _ _ _ _ _ (by omega) rfl rfl rfl (fun h => absurd h (Nat.lt_irrefl 0))
set_option maxHeartbeats 4000000 in
set_option maxRecDepth 100000 in
theorem k_X6_bestFold (l : Launch) (G : wG) {M : Nat} {A : Nat → Nat} {ke ty th ap ft bo ot il : Int32} {s : mS} {f : Nat → Int32} {qu fr by9 fa fs : Nat → Int32} {f1 : Nat → Int32} (hf : hd53 f s) (hok : mOk s) : Con0 l G yX6_bestFold cX6_bestFold 1 (some .int) 8 [.ref M] [(M, ob 5 (mF A ke ty th ap ft bo ot il)), (A 0, aI G 53 f), (A 1, aI G 53 f1), (A 5, aI G 4624 qu), (A 6, aI G 4624 fr), (A 7, aI G 4624 by9), (A 8, aI G 4624 fa), (A 9, aI G 16 fs)] (fun r w9 => r = some (.int (bstI s 7).1) ∧ ∃ (bo9 ot9 : Int32) (f19 qu9 fr9 by99 fa9 fs9 : Nat → Int32), w9 = [(M, ob 5 (mF A ke ty 0 ap ft bo9 ot9 0)), (A 0, aI G 53 f), (A 1, aI G 53 f19), (A 5, aI G 4624 qu9), (A 6, aI G 4624 fr9), (A 7, aI G 4624 by99), (A 8, aI G 4624 fa9), (A 9, aI G 16 fs9)]) := by
  refine Con.mk (by decide +kernel) (Nat.le_of_ble_eq_true rfl) (fun P C Rr => ?_)
  refine st_aload_n C (dk DX6_bestFold_0 0 rfl) rfl ?_
  refine st_iconst C (v := 0) (dk DX6_bestFold_0 1 rfl) (by decide) ?_
  refine st_put C fl_RX6_40 fc_5 fw_5_6 (dk DX6_bestFold_0 2 rfl) 0 rfl rfl rfl (Nat.le_of_ble_eq_true rfl) ?_
  refine st_aload_n C (dk DX6_bestFold_0 3 rfl) rfl ?_
  refine st_cV C (k_X6_best l G hf hok) mf_X6_best mi_X6_best ml_RX6_170 (dk DX6_bestFold_0 4 rfl) [0, 1, 2, 3, 4, 5, 6, 7] rfl rfl rfl rfl (Nat.le_of_ble_eq_true rfl) rfl rfl ⟨Nat.le_of_ble_eq_true rfl, Nat.le_of_ble_eq_true rfl⟩ ⟨Nat.zero_le _, Nat.zero_le _⟩ (fun r9 w9 hq9 => ?_)
  obtain ⟨rfl, bo6, ot6, f16, qu6, fr6, by6, fa6, fs6, rfl⟩ := hq9
  exact Rr 0 0 _ _ _ _ _ _ (Nat.zero_le _) (Nat.zero_le _) (dk DX6_bestFold_0 5 rfl) (.inr (.inl ⟨_, rfl, rfl, rfl, rfl⟩)) rfl ⟨rfl, ⟨rfl, bo6, ot6, f16, qu6, fr6, by6, fa6, fs6, rfl⟩⟩
