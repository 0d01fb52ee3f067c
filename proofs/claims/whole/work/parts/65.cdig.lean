/-! the landed class: bitsOfShare, digestOfLooks -/
set_option maxHeartbeats 4000000 in
set_option maxRecDepth 100000 in
theorem k_X5_bitsOfShare (l : Launch) (G : wG) {x : Int32} {k : Nat} (hx : x = nI k) (hk : k < 17) (hk2 : 0 < k) : Con0 l G yX5_bitsOfShare cX5_bitsOfShare 6 (some .long) 0 [.int x] [] (fun r w => r = some (.long (shD k).toInt64) ∧ w = []) := by
  refine Con.mk (by decide +kernel) (Nat.le_of_ble_eq_true rfl) (fun P C Rr => ?_)
  subst hx
  refine st_iconst C (v := 0) (dk DX5_bitsOfShare_0 0 rfl) (by decide) ?_
  refine st_istore_n C (dk DX5_bitsOfShare_0 1 rfl) (by decide) rfl ?_
  refine st_iload_n C (dk DX5_bitsOfShare_0 2 rfl) rfl ?_
  refine st_iconst C (v := 4) (dk DX5_bitsOfShare_0 3 rfl) (by decide) ?_
  refine st_icmp_ge C (tgt := 21) (dk DX5_bitsOfShare_0 4 rfl) (by decide) (fun c_4 => ?_) (fun c_4 => ?_)
  · exact absurd c_4 (by decide)
  · refine st_iload_n C (dk DX5_bitsOfShare_0 5 rfl) rfl ?_
    refine st_iload_n C (dk DX5_bitsOfShare_0 6 rfl) rfl ?_
    refine st_iconst C (v := 1) (dk DX5_bitsOfShare_0 7 rfl) (by decide) ?_
    refine st_iadd C (dk DX5_bitsOfShare_0 8 rfl) ?_
    refine st_ishr C (dk DX5_bitsOfShare_0 9 rfl) ?_
    refine st_if_le C (tgt := 21) (dk DX5_bitsOfShare_0 10 rfl) (by decide) (fun c_12 => ?_) (fun c_12 => ?_)
    · refine st_ldc2 C (dk DX5_bitsOfShare_0 13 rfl) kc_RX5_251 ?_
      refine st_iload_n C (dk DX5_bitsOfShare_0 14 rfl) rfl ?_
      refine st_i2l C (dk DX5_bitsOfShare_0 15 rfl) ?_
      refine st_ladd C (dk DX5_bitsOfShare_0 16 rfl) ?_
      refine st_ldc2 C (dk DX5_bitsOfShare_0 17 rfl) kc_RX5_253 ?_
      refine st_lsub C (dk DX5_bitsOfShare_0 18 rfl) ?_
      refine st_lstore_n C (dk DX5_bitsOfShare_0 19 rfl) (by decide) rfl rfl ?_
      refine st_iload_n C (dk DX5_bitsOfShare_0 20 rfl) rfl ?_
      refine st_iconst C (v := 1) (dk DX5_bitsOfShare_0 21 rfl) (by decide) ?_
      refine st_iload_n C (dk DX5_bitsOfShare_0 22 rfl) rfl ?_
      refine st_ishl C (dk DX5_bitsOfShare_0 23 rfl) ?_
      refine st_isub C (dk DX5_bitsOfShare_0 24 rfl) ?_
      refine st_i2l C (dk DX5_bitsOfShare_0 25 rfl) ?_
      refine st_bipush C (v := 52) (dk DX5_bitsOfShare_0 26 rfl) (by decide) ?_
      refine st_iload_n C (dk DX5_bitsOfShare_0 27 rfl) rfl ?_
      refine st_isub C (dk DX5_bitsOfShare_0 28 rfl) ?_
      refine st_lshl C (dk DX5_bitsOfShare_0 29 rfl) ?_
      refine st_lstore C (dk DX5_bitsOfShare_0 30 rfl) (by decide) rfl rfl ?_
      refine st_lload_n C (dk DX5_bitsOfShare_0 31 rfl) rfl ?_
      refine st_bipush C (v := 52) (dk DX5_bitsOfShare_0 32 rfl) (by decide) ?_
      refine st_lshl C (dk DX5_bitsOfShare_0 33 rfl) ?_
      refine st_lload C (dk DX5_bitsOfShare_0 34 rfl) rfl ?_
      refine st_lor C (dk DX5_bitsOfShare_0 35 rfl) ?_
      refine Rr 0 0 _ _ _ _ _ _ (Nat.zero_le _) (Nat.zero_le _) (dk DX5_bitsOfShare_0 36 rfl) (.inr (.inr (.inr (.inl ⟨_, rfl, rfl, rfl, rfl⟩)))) rfl ?_
      refine ⟨rfl, ?_, rfl⟩
      refine congrArg (fun z => some (Value.long z)) ?_
      clear Rr C P
      revert c_12
      revert hk2
      revert hk
      revert k
      unfold shD
      show ∀ k : Nat, _
      decide +kernel
    · refine st_iinc C (dk DX5_bitsOfShare_0 11 rfl) rfl (iadd_ofInt _ (1) (1) (by decide)) (by decide) rfl ?_
      refine st_goto C (tgt := 2) (dk DX5_bitsOfShare_0 12 rfl) (by decide) ?_
      refine st_iload_n C (dk DX5_bitsOfShare_0 2 rfl) rfl ?_
      refine st_iconst C (v := 4) (dk DX5_bitsOfShare_0 3 rfl) (by decide) ?_
      refine st_icmp_ge C (tgt := 21) (dk DX5_bitsOfShare_0 4 rfl) (by decide) (fun c_4_1 => ?_) (fun c_4_1 => ?_)
      · exact absurd c_4_1 (by decide)
      · refine st_iload_n C (dk DX5_bitsOfShare_0 5 rfl) rfl ?_
        refine st_iload_n C (dk DX5_bitsOfShare_0 6 rfl) rfl ?_
        refine st_iconst C (v := 1) (dk DX5_bitsOfShare_0 7 rfl) (by decide) ?_
        refine st_iadd C (dk DX5_bitsOfShare_0 8 rfl) ?_
        refine st_ishr C (dk DX5_bitsOfShare_0 9 rfl) ?_
        refine st_if_le C (tgt := 21) (dk DX5_bitsOfShare_0 10 rfl) (by decide) (fun c_12_1 => ?_) (fun c_12_1 => ?_)
        · refine st_ldc2 C (dk DX5_bitsOfShare_0 13 rfl) kc_RX5_251 ?_
          refine st_iload_n C (dk DX5_bitsOfShare_0 14 rfl) rfl ?_
          refine st_i2l C (dk DX5_bitsOfShare_0 15 rfl) ?_
          refine st_ladd C (dk DX5_bitsOfShare_0 16 rfl) ?_
          refine st_ldc2 C (dk DX5_bitsOfShare_0 17 rfl) kc_RX5_253 ?_
          refine st_lsub C (dk DX5_bitsOfShare_0 18 rfl) ?_
          refine st_lstore_n C (dk DX5_bitsOfShare_0 19 rfl) (by decide) rfl rfl ?_
          refine st_iload_n C (dk DX5_bitsOfShare_0 20 rfl) rfl ?_
          refine st_iconst C (v := 1) (dk DX5_bitsOfShare_0 21 rfl) (by decide) ?_
          refine st_iload_n C (dk DX5_bitsOfShare_0 22 rfl) rfl ?_
          refine st_ishl C (dk DX5_bitsOfShare_0 23 rfl) ?_
          refine st_isub C (dk DX5_bitsOfShare_0 24 rfl) ?_
          refine st_i2l C (dk DX5_bitsOfShare_0 25 rfl) ?_
          refine st_bipush C (v := 52) (dk DX5_bitsOfShare_0 26 rfl) (by decide) ?_
          refine st_iload_n C (dk DX5_bitsOfShare_0 27 rfl) rfl ?_
          refine st_isub C (dk DX5_bitsOfShare_0 28 rfl) ?_
          refine st_lshl C (dk DX5_bitsOfShare_0 29 rfl) ?_
          refine st_lstore C (dk DX5_bitsOfShare_0 30 rfl) (by decide) rfl rfl ?_
          refine st_lload_n C (dk DX5_bitsOfShare_0 31 rfl) rfl ?_
          refine st_bipush C (v := 52) (dk DX5_bitsOfShare_0 32 rfl) (by decide) ?_
          refine st_lshl C (dk DX5_bitsOfShare_0 33 rfl) ?_
          refine st_lload C (dk DX5_bitsOfShare_0 34 rfl) rfl ?_
          refine st_lor C (dk DX5_bitsOfShare_0 35 rfl) ?_
          refine Rr 0 0 _ _ _ _ _ _ (Nat.zero_le _) (Nat.zero_le _) (dk DX5_bitsOfShare_0 36 rfl) (.inr (.inr (.inr (.inl ⟨_, rfl, rfl, rfl, rfl⟩)))) rfl ?_
          refine ⟨rfl, ?_, rfl⟩
          refine congrArg (fun z => some (Value.long z)) ?_
          clear Rr C P
          revert c_12 c_12_1
          revert hk2
          revert hk
          revert k
          unfold shD
          show ∀ k : Nat, _
          decide +kernel
        · refine st_iinc C (dk DX5_bitsOfShare_0 11 rfl) rfl (iadd_ofInt _ (1) (1) (by decide)) (by decide) rfl ?_
          refine st_goto C (tgt := 2) (dk DX5_bitsOfShare_0 12 rfl) (by decide) ?_
          refine st_iload_n C (dk DX5_bitsOfShare_0 2 rfl) rfl ?_
          refine st_iconst C (v := 4) (dk DX5_bitsOfShare_0 3 rfl) (by decide) ?_
          refine st_icmp_ge C (tgt := 21) (dk DX5_bitsOfShare_0 4 rfl) (by decide) (fun c_4_2 => ?_) (fun c_4_2 => ?_)
          · exact absurd c_4_2 (by decide)
          · refine st_iload_n C (dk DX5_bitsOfShare_0 5 rfl) rfl ?_
            refine st_iload_n C (dk DX5_bitsOfShare_0 6 rfl) rfl ?_
            refine st_iconst C (v := 1) (dk DX5_bitsOfShare_0 7 rfl) (by decide) ?_
            refine st_iadd C (dk DX5_bitsOfShare_0 8 rfl) ?_
            refine st_ishr C (dk DX5_bitsOfShare_0 9 rfl) ?_
            refine st_if_le C (tgt := 21) (dk DX5_bitsOfShare_0 10 rfl) (by decide) (fun c_12_2 => ?_) (fun c_12_2 => ?_)
            · refine st_ldc2 C (dk DX5_bitsOfShare_0 13 rfl) kc_RX5_251 ?_
              refine st_iload_n C (dk DX5_bitsOfShare_0 14 rfl) rfl ?_
              refine st_i2l C (dk DX5_bitsOfShare_0 15 rfl) ?_
              refine st_ladd C (dk DX5_bitsOfShare_0 16 rfl) ?_
              refine st_ldc2 C (dk DX5_bitsOfShare_0 17 rfl) kc_RX5_253 ?_
              refine st_lsub C (dk DX5_bitsOfShare_0 18 rfl) ?_
              refine st_lstore_n C (dk DX5_bitsOfShare_0 19 rfl) (by decide) rfl rfl ?_
              refine st_iload_n C (dk DX5_bitsOfShare_0 20 rfl) rfl ?_
              refine st_iconst C (v := 1) (dk DX5_bitsOfShare_0 21 rfl) (by decide) ?_
              refine st_iload_n C (dk DX5_bitsOfShare_0 22 rfl) rfl ?_
              refine st_ishl C (dk DX5_bitsOfShare_0 23 rfl) ?_
              refine st_isub C (dk DX5_bitsOfShare_0 24 rfl) ?_
              refine st_i2l C (dk DX5_bitsOfShare_0 25 rfl) ?_
              refine st_bipush C (v := 52) (dk DX5_bitsOfShare_0 26 rfl) (by decide) ?_
              refine st_iload_n C (dk DX5_bitsOfShare_0 27 rfl) rfl ?_
              refine st_isub C (dk DX5_bitsOfShare_0 28 rfl) ?_
              refine st_lshl C (dk DX5_bitsOfShare_0 29 rfl) ?_
              refine st_lstore C (dk DX5_bitsOfShare_0 30 rfl) (by decide) rfl rfl ?_
              refine st_lload_n C (dk DX5_bitsOfShare_0 31 rfl) rfl ?_
              refine st_bipush C (v := 52) (dk DX5_bitsOfShare_0 32 rfl) (by decide) ?_
              refine st_lshl C (dk DX5_bitsOfShare_0 33 rfl) ?_
              refine st_lload C (dk DX5_bitsOfShare_0 34 rfl) rfl ?_
              refine st_lor C (dk DX5_bitsOfShare_0 35 rfl) ?_
              refine Rr 0 0 _ _ _ _ _ _ (Nat.zero_le _) (Nat.zero_le _) (dk DX5_bitsOfShare_0 36 rfl) (.inr (.inr (.inr (.inl ⟨_, rfl, rfl, rfl, rfl⟩)))) rfl ?_
              refine ⟨rfl, ?_, rfl⟩
              refine congrArg (fun z => some (Value.long z)) ?_
              clear Rr C P
              clear c_12
              revert c_12_1 c_12_2
              revert hk2
              revert hk
              revert k
              unfold shD
              show ∀ k : Nat, _
              decide +kernel
            · refine st_iinc C (dk DX5_bitsOfShare_0 11 rfl) rfl (iadd_ofInt _ (1) (1) (by decide)) (by decide) rfl ?_
              refine st_goto C (tgt := 2) (dk DX5_bitsOfShare_0 12 rfl) (by decide) ?_
              refine st_iload_n C (dk DX5_bitsOfShare_0 2 rfl) rfl ?_
              refine st_iconst C (v := 4) (dk DX5_bitsOfShare_0 3 rfl) (by decide) ?_
              refine st_icmp_ge C (tgt := 21) (dk DX5_bitsOfShare_0 4 rfl) (by decide) (fun c_4_3 => ?_) (fun c_4_3 => ?_)
              · exact absurd c_4_3 (by decide)
              · refine st_iload_n C (dk DX5_bitsOfShare_0 5 rfl) rfl ?_
                refine st_iload_n C (dk DX5_bitsOfShare_0 6 rfl) rfl ?_
                refine st_iconst C (v := 1) (dk DX5_bitsOfShare_0 7 rfl) (by decide) ?_
                refine st_iadd C (dk DX5_bitsOfShare_0 8 rfl) ?_
                refine st_ishr C (dk DX5_bitsOfShare_0 9 rfl) ?_
                refine st_if_le C (tgt := 21) (dk DX5_bitsOfShare_0 10 rfl) (by decide) (fun c_12_3 => ?_) (fun c_12_3 => ?_)
                · refine st_ldc2 C (dk DX5_bitsOfShare_0 13 rfl) kc_RX5_251 ?_
                  refine st_iload_n C (dk DX5_bitsOfShare_0 14 rfl) rfl ?_
                  refine st_i2l C (dk DX5_bitsOfShare_0 15 rfl) ?_
                  refine st_ladd C (dk DX5_bitsOfShare_0 16 rfl) ?_
                  refine st_ldc2 C (dk DX5_bitsOfShare_0 17 rfl) kc_RX5_253 ?_
                  refine st_lsub C (dk DX5_bitsOfShare_0 18 rfl) ?_
                  refine st_lstore_n C (dk DX5_bitsOfShare_0 19 rfl) (by decide) rfl rfl ?_
                  refine st_iload_n C (dk DX5_bitsOfShare_0 20 rfl) rfl ?_
                  refine st_iconst C (v := 1) (dk DX5_bitsOfShare_0 21 rfl) (by decide) ?_
                  refine st_iload_n C (dk DX5_bitsOfShare_0 22 rfl) rfl ?_
                  refine st_ishl C (dk DX5_bitsOfShare_0 23 rfl) ?_
                  refine st_isub C (dk DX5_bitsOfShare_0 24 rfl) ?_
                  refine st_i2l C (dk DX5_bitsOfShare_0 25 rfl) ?_
                  refine st_bipush C (v := 52) (dk DX5_bitsOfShare_0 26 rfl) (by decide) ?_
                  refine st_iload_n C (dk DX5_bitsOfShare_0 27 rfl) rfl ?_
                  refine st_isub C (dk DX5_bitsOfShare_0 28 rfl) ?_
                  refine st_lshl C (dk DX5_bitsOfShare_0 29 rfl) ?_
                  refine st_lstore C (dk DX5_bitsOfShare_0 30 rfl) (by decide) rfl rfl ?_
                  refine st_lload_n C (dk DX5_bitsOfShare_0 31 rfl) rfl ?_
                  refine st_bipush C (v := 52) (dk DX5_bitsOfShare_0 32 rfl) (by decide) ?_
                  refine st_lshl C (dk DX5_bitsOfShare_0 33 rfl) ?_
                  refine st_lload C (dk DX5_bitsOfShare_0 34 rfl) rfl ?_
                  refine st_lor C (dk DX5_bitsOfShare_0 35 rfl) ?_
                  refine Rr 0 0 _ _ _ _ _ _ (Nat.zero_le _) (Nat.zero_le _) (dk DX5_bitsOfShare_0 36 rfl) (.inr (.inr (.inr (.inl ⟨_, rfl, rfl, rfl, rfl⟩)))) rfl ?_
                  refine ⟨rfl, ?_, rfl⟩
                  refine congrArg (fun z => some (Value.long z)) ?_
                  clear Rr C P
                  clear c_12 c_12_1
                  revert c_12_2 c_12_3
                  revert hk2
                  revert hk
                  revert k
                  unfold shD
                  show ∀ k : Nat, _
                  decide +kernel
                · refine st_iinc C (dk DX5_bitsOfShare_0 11 rfl) rfl (iadd_ofInt _ (1) (1) (by decide)) (by decide) rfl ?_
                  refine st_goto C (tgt := 2) (dk DX5_bitsOfShare_0 12 rfl) (by decide) ?_
                  refine st_iload_n C (dk DX5_bitsOfShare_0 2 rfl) rfl ?_
                  refine st_iconst C (v := 4) (dk DX5_bitsOfShare_0 3 rfl) (by decide) ?_
                  refine st_icmp_ge C (tgt := 21) (dk DX5_bitsOfShare_0 4 rfl) (by decide) (fun c_4_4 => ?_) (fun c_4_4 => ?_)
                  · refine st_ldc2 C (dk DX5_bitsOfShare_0 13 rfl) kc_RX5_251 ?_
                    refine st_iload_n C (dk DX5_bitsOfShare_0 14 rfl) rfl ?_
                    refine st_i2l C (dk DX5_bitsOfShare_0 15 rfl) ?_
                    refine st_ladd C (dk DX5_bitsOfShare_0 16 rfl) ?_
                    refine st_ldc2 C (dk DX5_bitsOfShare_0 17 rfl) kc_RX5_253 ?_
                    refine st_lsub C (dk DX5_bitsOfShare_0 18 rfl) ?_
                    refine st_lstore_n C (dk DX5_bitsOfShare_0 19 rfl) (by decide) rfl rfl ?_
                    refine st_iload_n C (dk DX5_bitsOfShare_0 20 rfl) rfl ?_
                    refine st_iconst C (v := 1) (dk DX5_bitsOfShare_0 21 rfl) (by decide) ?_
                    refine st_iload_n C (dk DX5_bitsOfShare_0 22 rfl) rfl ?_
                    refine st_ishl C (dk DX5_bitsOfShare_0 23 rfl) ?_
                    refine st_isub C (dk DX5_bitsOfShare_0 24 rfl) ?_
                    refine st_i2l C (dk DX5_bitsOfShare_0 25 rfl) ?_
                    refine st_bipush C (v := 52) (dk DX5_bitsOfShare_0 26 rfl) (by decide) ?_
                    refine st_iload_n C (dk DX5_bitsOfShare_0 27 rfl) rfl ?_
                    refine st_isub C (dk DX5_bitsOfShare_0 28 rfl) ?_
                    refine st_lshl C (dk DX5_bitsOfShare_0 29 rfl) ?_
                    refine st_lstore C (dk DX5_bitsOfShare_0 30 rfl) (by decide) rfl rfl ?_
                    refine st_lload_n C (dk DX5_bitsOfShare_0 31 rfl) rfl ?_
                    refine st_bipush C (v := 52) (dk DX5_bitsOfShare_0 32 rfl) (by decide) ?_
                    refine st_lshl C (dk DX5_bitsOfShare_0 33 rfl) ?_
                    refine st_lload C (dk DX5_bitsOfShare_0 34 rfl) rfl ?_
                    refine st_lor C (dk DX5_bitsOfShare_0 35 rfl) ?_
                    refine Rr 0 0 _ _ _ _ _ _ (Nat.zero_le _) (Nat.zero_le _) (dk DX5_bitsOfShare_0 36 rfl) (.inr (.inr (.inr (.inl ⟨_, rfl, rfl, rfl, rfl⟩)))) rfl ?_
                    refine ⟨rfl, ?_, rfl⟩
                    refine congrArg (fun z => some (Value.long z)) ?_
                    clear Rr C P
                    clear c_12 c_12_1
                    revert c_12_2 c_12_3
                    revert hk2
                    revert hk
                    revert k
                    unfold shD
                    show ∀ k : Nat, _
                    decide +kernel
                  · exact absurd (by decide) c_4_4
set_option maxHeartbeats 4000000 in
set_option maxRecDepth 100000 in
theorem k_X5_digestOfLooks (l : Launch) (G : wG) {K p q1 q2 o v v1 t t1 t2 t3 t4 y : Nat} {s : mS} {ns lk ld : Nat → Int32} {zz rc : Int32} {en : Nat → Int32} {sn : Nat → Int64} {nd ln : Nat → Int32} {nx sz : Int32} {k : Nat} (hC : CRep s ns lk ld) (hsz : sz = nI k) (hS : SRx s rc en nd ln) : Con0 l G yX5_digestOfLooks cX5_digestOfLooks 7 (some .long) 5 [.ref K, .long 3319] [(K, ob 4 (kF p o v t y)), (p, ob 0 (cR q1 q2 ns)), (q1, aI G 15 lk), (q2, aI G 16 ld), (v, ob 1 (vF v1 nx sz)), (t, ob 2 (sF t1 t2 t3 t4 zz rc)), (t1, aI G 4624 en), (t2, aJ G 256 sn), (t3, aI G 16 nd), (t4, aI G 16 ln)] (fun r w => r = some (.long (dg5 s k)) ∧ w = [(K, ob 4 (kF p o v t y)), (p, ob 0 (cR q1 q2 ns)), (q1, aI G 15 lk), (q2, aI G 16 ld), (v, ob 1 (vF v1 nx sz)), (t, ob 2 (sF t1 t2 t3 t4 zz rc)), (t1, aI G 4624 en), (t2, aJ G 256 sn), (t3, aI G 16 nd), (t4, aI G 16 ln)]) := by
  refine Con.mk (by decide +kernel) (Nat.le_of_ble_eq_true rfl) (fun P C Rr => ?_)
  have hok := hC.1
  have hlq := lnN_lt hok 15
  have loop6 : ∀ (m i : Nat) (x : Int32) (h : Int64), i + m = (lnN (fS s) 15) → x = nI i → h = hN (fun a => plI (fS s) 15 a) (dg4 s k) i → P 0 0 147 [(0, .ref K), (1, .long 3319), (3, .long h), (5, .int (lnOf (fS s) 15)), (6, .int x)] [] [(K, ob 4 (kF p o v t y)), (p, ob 0 (cR q1 q2 ns)), (q1, aI G 15 lk), (q2, aI G 16 ld), (v, ob 1 (vF v1 nx sz)), (t, ob 2 (sF t1 t2 t3 t4 zz rc)), (t1, aI G 4624 en), (t2, aJ G 256 sn), (t3, aI G 16 nd), (t4, aI G 16 ln)] := by
    intro m
    induction m with
    | zero =>
      intro i x h hi hx hh
      have hin : i = (lnN (fS s) 15) := by omega
      refine st_iload C (dk DX5_digestOfLooks_1 34 rfl) rfl ?_
      refine st_iload C (dk DX5_digestOfLooks_1 35 rfl) rfl ?_
      refine st_icmp_ge C (tgt := 177) (dk DX5_digestOfLooks_1 36 rfl) (by decide) (fun c_151 => ?_) (fun c_151 => ?_)
      · refine st_lload_n C (dk DX5_digestOfLooks_2 8 rfl) rfl ?_
        exact Rr 0 0 _ _ _ _ _ _ (Nat.zero_le _) (Nat.zero_le _) (dk DX5_digestOfLooks_2 9 rfl) (.inr (.inr (.inr (.inl ⟨_, rfl, rfl, rfl, rfl⟩)))) rfl ⟨rfl, ⟨by rw [hh, hin, dg5], rfl⟩⟩
      · exact absurd ((by rw [hx, hin]; exact lnN_le hok 15)) c_151
    | succ m ih =>
      intro i x h hi hx hh
      refine st_iload C (dk DX5_digestOfLooks_1 34 rfl) rfl ?_
      refine st_iload C (dk DX5_digestOfLooks_1 35 rfl) rfl ?_
      refine st_icmp_ge C (tgt := 177) (dk DX5_digestOfLooks_1 36 rfl) (by decide) (fun c_151 => ?_) (fun c_151 => ?_)
      · exact absurd (by rw [← hx]; exact c_151) (lnN_gt hok (c := 15) (i := i) (by omega))
      · refine st_lload_n C (dk DX5_digestOfLooks_1 37 rfl) rfl ?_
        refine st_aload_n C (dk DX5_digestOfLooks_1 38 rfl) rfl ?_
        refine st_get C fl_RX5_29 (dk DX5_digestOfLooks_1 39 rfl) 0 rfl rfl ?_
        refine st_bipush C (v := 15) (dk DX5_digestOfLooks_2 0 rfl) (by decide) ?_
        refine st_iload C (dk DX5_digestOfLooks_2 1 rfl) rfl ?_
        refine st_cV C (k_X3_stepTo l G) mf_X3_stepTo mi_X3_stepTo ml_RX5_139 (dk DX5_digestOfLooks_2 2 rfl) [5, 6, 8, 9] rfl rfl rfl rfl (Nat.le_of_ble_eq_true rfl) rfl rfl ⟨Nat.le_of_ble_eq_true rfl, Nat.le_of_ble_eq_true rfl⟩ ⟨Nat.zero_le _, Nat.zero_le _⟩ (fun r9 w9 hq9 => ?_)
        obtain ⟨rfl, rfl⟩ := hq9
        show P _ _ _ _ _ [_, _, _, _, _, _, _, _, _, _]
        rw [show rStepTo en nd ln 15 x = plI (fS s) 15 i by rw [hx]; exact hS.2.2 15 i (by omega) (by omega)]
        refine st_i2l C (dk DX5_digestOfLooks_2 3 rfl) ?_
        refine st_cS C (k_X5_mix l G) mf_X5_mix ms_X5_mix ml_RX5_204 (dk DX5_digestOfLooks_2 4 rfl) [] rfl rfl rfl rfl (Nat.le_of_ble_eq_true rfl) ⟨Nat.le_of_ble_eq_true rfl, Nat.le_of_ble_eq_true rfl⟩ ⟨Nat.zero_le _, Nat.zero_le _⟩ (fun r9 w9 hq9 => ?_)
        obtain ⟨rfl, rfl⟩ := hq9
        show P _ _ _ _ _ [_, _, _, _, _, _, _, _, _, _]
        refine st_lstore_n C (dk DX5_digestOfLooks_2 5 rfl) (by decide) rfl rfl ?_
        refine st_iinc C (dk DX5_digestOfLooks_2 6 rfl) rfl (iadd_ofInt _ (1) (1) (by decide)) (by decide) rfl ?_
        refine st_goto C (tgt := 147) (dk DX5_digestOfLooks_2 7 rfl) (by decide) ?_
        exact ih (i + 1) _ _ (by omega) (up_nI hx) (by rw [hh]; exact hN_s _ _ _)
  have loop5 : ∀ (m i : Nat) (x : Int32) (h : Int64), i + m = 5 → x = nI i → h = hN (fun st => nI (refN s st)) (dg3 s k) i → P 0 0 106 [(0, .ref K), (1, .long 3319), (3, .long h), (5, .int x)] [] [(K, ob 4 (kF p o v t y)), (p, ob 0 (cR q1 q2 ns)), (q1, aI G 15 lk), (q2, aI G 16 ld), (v, ob 1 (vF v1 nx sz)), (t, ob 2 (sF t1 t2 t3 t4 zz rc)), (t1, aI G 4624 en), (t2, aJ G 256 sn), (t3, aI G 16 nd), (t4, aI G 16 ln)] := by
    intro m
    induction m with
    | zero =>
      intro i x h hi hx hh
      obtain rfl : i = 5 := by omega
      refine st_iload C (dk DX5_digestOfLooks_1 14 rfl) rfl ?_
      refine st_iconst C (v := 5) (dk DX5_digestOfLooks_1 15 rfl) (by decide) ?_
      refine st_icmp_ge C (tgt := 133) (dk DX5_digestOfLooks_1 16 rfl) (by decide) (fun c_109 => ?_) (fun c_109 => ?_)
      · refine st_aload_n C (dk DX5_digestOfLooks_1 27 rfl) rfl ?_
        refine st_get C fl_RX5_29 (dk DX5_digestOfLooks_1 28 rfl) 0 rfl rfl ?_
        refine st_bipush C (v := 15) (dk DX5_digestOfLooks_1 29 rfl) (by decide) ?_
        refine st_cV C (k_X3_lengthTo l G) mf_X3_lengthTo mi_X3_lengthTo ml_RX5_134 (dk DX5_digestOfLooks_1 30 rfl) [5, 9] rfl rfl rfl rfl (Nat.le_of_ble_eq_true rfl) rfl rfl ⟨Nat.le_of_ble_eq_true rfl, Nat.le_of_ble_eq_true rfl⟩ ⟨Nat.zero_le _, Nat.zero_le _⟩ (fun r9 w9 hq9 => ?_)
        obtain ⟨rfl, rfl⟩ := hq9
        show P _ _ _ _ _ [_, _, _, _, _, _, _, _, _, _]
        rw [show rLen ln 15 = lnOf (fS s) 15 from hS.2.1 15 (by omega)]
        refine st_istore C (dk DX5_digestOfLooks_1 31 rfl) (by decide) rfl ?_
        refine st_iconst C (v := 0) (dk DX5_digestOfLooks_1 32 rfl) (by decide) ?_
        refine st_istore C (dk DX5_digestOfLooks_1 33 rfl) (by decide) rfl ?_
        exact loop6 _ 0 _ _ (Nat.zero_add _) rfl (by rw [hh, hN_0, dg4])
      · exact absurd ((ge_nI (a := 5) (i := 5) (by decide) (by decide) rfl hx).mpr (Nat.le_refl _)) c_109
    | succ m ih =>
      intro i x h hi hx hh
      refine st_iload C (dk DX5_digestOfLooks_1 14 rfl) rfl ?_
      refine st_iconst C (v := 5) (dk DX5_digestOfLooks_1 15 rfl) (by decide) ?_
      refine st_icmp_ge C (tgt := 133) (dk DX5_digestOfLooks_1 16 rfl) (by decide) (fun c_109 => ?_) (fun c_109 => ?_)
      · exact absurd ((ge_nI (a := 5) (i := i) (by decide) (by omega) rfl hx).mp c_109) (by omega)
      · refine st_lload_n C (dk DX5_digestOfLooks_1 17 rfl) rfl ?_
        refine st_aload_n C (dk DX5_digestOfLooks_1 18 rfl) rfl ?_
        refine st_get C fl_RX5_10 (dk DX5_digestOfLooks_1 19 rfl) 0 rfl rfl ?_
        refine st_iload C (dk DX5_digestOfLooks_1 20 rfl) rfl ?_
        refine st_cV C (k_X1_reasonAgainst l G) mf_X1_reasonAgainst mi_X1_reasonAgainst ml_RX5_122 (dk DX5_digestOfLooks_1 21 rfl) [1, 2, 3] rfl rfl rfl rfl (Nat.le_of_ble_eq_true rfl) rfl rfl ⟨Nat.le_of_ble_eq_true rfl, Nat.le_of_ble_eq_true rfl⟩ ⟨Nat.zero_le _, Nat.zero_le _⟩ (fun r9 w9 hq9 => ?_)
        obtain ⟨rfl, rfl⟩ := hq9
        show P _ _ _ _ _ [_, _, _, _, _, _, _, _, _, _]
        rw [show rReas lk ld (ns 0) (ns 1) (ns 3) (ns 2) x = nI (refN s i) by rw [hx]; exact hC.reas (by omega)]
        refine st_i2l C (dk DX5_digestOfLooks_1 22 rfl) ?_
        refine st_cS C (k_X5_mix l G) mf_X5_mix ms_X5_mix ml_RX5_204 (dk DX5_digestOfLooks_1 23 rfl) [] rfl rfl rfl rfl (Nat.le_of_ble_eq_true rfl) ⟨Nat.le_of_ble_eq_true rfl, Nat.le_of_ble_eq_true rfl⟩ ⟨Nat.zero_le _, Nat.zero_le _⟩ (fun r9 w9 hq9 => ?_)
        obtain ⟨rfl, rfl⟩ := hq9
        show P _ _ _ _ _ [_, _, _, _, _, _, _, _, _, _]
        refine st_lstore_n C (dk DX5_digestOfLooks_1 24 rfl) (by decide) rfl rfl ?_
        refine st_iinc C (dk DX5_digestOfLooks_1 25 rfl) rfl (iadd_ofInt _ (1) (1) (by decide)) (by decide) rfl ?_
        refine st_goto C (tgt := 106) (dk DX5_digestOfLooks_1 26 rfl) (by decide) ?_
        exact ih (i + 1) _ _ (by omega) (up_nI hx) (by rw [hh]; exact hN_s _ _ _)
  have inner : ∀ (m i : Nat) (x : Int32) (c : Nat) (x9 : Int32) (h : Int64), i + m = 7 → x = nI i → x9 = nI c → c < 16 → h = hN (fun j => ofI s (j / 7) (j % 7)) (dg2 s k) (7 * c + i) → (∀ h9 : Int64, h9 = hN (fun j => ofI s (j / 7) (j % 7)) (dg2 s k) (7 * (c + 1)) → P 0 0 97 [(0, .ref K), (1, .long 3319), (3, .long h9), (5, .int x9)] [] [(K, ob 4 (kF p o v t y)), (p, ob 0 (cR q1 q2 ns)), (q1, aI G 15 lk), (q2, aI G 16 ld), (v, ob 1 (vF v1 nx sz)), (t, ob 2 (sF t1 t2 t3 t4 zz rc)), (t1, aI G 4624 en), (t2, aJ G 256 sn), (t3, aI G 16 nd), (t4, aI G 16 ln)]) → P 0 0 70 [(0, .ref K), (1, .long 3319), (3, .long h), (5, .int x9), (6, .int x)] [] [(K, ob 4 (kF p o v t y)), (p, ob 0 (cR q1 q2 ns)), (q1, aI G 15 lk), (q2, aI G 16 ld), (v, ob 1 (vF v1 nx sz)), (t, ob 2 (sF t1 t2 t3 t4 zz rc)), (t1, aI G 4624 en), (t2, aJ G 256 sn), (t3, aI G 16 nd), (t4, aI G 16 ln)] := by
    intro m
    induction m with
    | zero =>
      intro i x c x9 h hi hx hx9 hc hh kk
      obtain rfl : i = 7 := by omega
      refine st_iload C (dk DX5_digestOfLooks_0 37 rfl) rfl ?_
      refine st_bipush C (v := 6) (dk DX5_digestOfLooks_0 38 rfl) (by decide) ?_
      refine st_icmp_gt C (tgt := 97) (dk DX5_digestOfLooks_0 39 rfl) (by decide) (fun c_74 => ?_) (fun c_74 => ?_)
      · refine st_lv C [0, 1, 2, 3] rfl ?_
        exact kk _ (by rw [hh]; congr 1)
      · exact absurd ((lt_nI (a := 6) (i := 7) (by decide) (by decide) rfl hx).mpr (by decide)) c_74
    | succ m ih =>
      intro i x c x9 h hi hx hx9 hc hh kk
      refine st_iload C (dk DX5_digestOfLooks_0 37 rfl) rfl ?_
      refine st_bipush C (v := 6) (dk DX5_digestOfLooks_0 38 rfl) (by decide) ?_
      refine st_icmp_gt C (tgt := 97) (dk DX5_digestOfLooks_0 39 rfl) (by decide) (fun c_74 => ?_) (fun c_74 => ?_)
      · exact absurd ((lt_nI (a := 6) (i := i) (by decide) (by omega) rfl hx).mp c_74) (by omega)
      · refine st_lload_n C (dk DX5_digestOfLooks_1 0 rfl) rfl ?_
        refine st_aload_n C (dk DX5_digestOfLooks_1 1 rfl) rfl ?_
        refine st_iload C (dk DX5_digestOfLooks_1 2 rfl) rfl ?_
        refine st_iload C (dk DX5_digestOfLooks_1 3 rfl) rfl ?_
        refine st_cV C (k_X5_numberOfCell l G hC hx9 hc hx (by omega) (fun _ => hS)) mf_X5_numberOfCell mi_X5_numberOfCell ml_RX5_171 (dk DX5_digestOfLooks_1 4 rfl) [0, 1, 2, 3, 5, 6, 7, 8, 9] rfl rfl rfl rfl (Nat.le_of_ble_eq_true rfl) rfl rfl ⟨Nat.le_of_ble_eq_true rfl, Nat.le_of_ble_eq_true rfl⟩ ⟨Nat.zero_le _, Nat.zero_le _⟩ (fun r9 w9 hq9 => ?_)
        obtain ⟨rfl, rfl⟩ := hq9
        simp only [put_cons, put_nil, List.set_cons_zero, List.set_cons_succ]
        refine st_i2l C (dk DX5_digestOfLooks_1 5 rfl) ?_
        refine st_cS C (k_X5_mix l G) mf_X5_mix ms_X5_mix ml_RX5_204 (dk DX5_digestOfLooks_1 6 rfl) [] rfl rfl rfl rfl (Nat.le_of_ble_eq_true rfl) ⟨Nat.le_of_ble_eq_true rfl, Nat.le_of_ble_eq_true rfl⟩ ⟨Nat.zero_le _, Nat.zero_le _⟩ (fun r9 w9 hq9 => ?_)
        obtain ⟨rfl, rfl⟩ := hq9
        show P _ _ _ _ _ [_, _, _, _, _, _, _, _, _, _]
        refine st_lstore_n C (dk DX5_digestOfLooks_1 7 rfl) (by decide) rfl rfl ?_
        refine st_iinc C (dk DX5_digestOfLooks_1 8 rfl) rfl (iadd_ofInt _ (1) (1) (by decide)) (by decide) rfl ?_
        refine st_goto C (tgt := 70) (dk DX5_digestOfLooks_1 9 rfl) (by decide) ?_
        exact ih (i + 1) _ _ _ _ (by omega) (up_nI hx) hx9 hc (by
          rw [hh]
          show _ = hN (fun j => ofI s (j / 7) (j % 7)) (dg2 s k) (7 * c + i + 1)
          rw [← hN_s]
          show _ = 31 * _ + (ofI s ((7 * c + i) / 7) ((7 * c + i) % 7)).toInt64
          rw [show (7 * c + i) / 7 = c by omega, show (7 * c + i) % 7 = i by omega]
          rfl) kk
  have loop3 : ∀ (m i : Nat) (x : Int32) (h : Int64), i + m = 16 → x = nI i → h = hN (fun j => ofI s (j / 7) (j % 7)) (dg2 s k) (7 * i) → P 0 0 60 [(0, .ref K), (1, .long 3319), (3, .long h), (5, .int x)] [] [(K, ob 4 (kF p o v t y)), (p, ob 0 (cR q1 q2 ns)), (q1, aI G 15 lk), (q2, aI G 16 ld), (v, ob 1 (vF v1 nx sz)), (t, ob 2 (sF t1 t2 t3 t4 zz rc)), (t1, aI G 4624 en), (t2, aJ G 256 sn), (t3, aI G 16 nd), (t4, aI G 16 ln)] := by
    intro m
    induction m with
    | zero =>
      intro i x h hi hx hh
      obtain rfl : i = 16 := by omega
      refine st_iload C (dk DX5_digestOfLooks_0 32 rfl) rfl ?_
      refine st_bipush C (v := 16) (dk DX5_digestOfLooks_0 33 rfl) (by decide) ?_
      refine st_icmp_ge C (tgt := 103) (dk DX5_digestOfLooks_0 34 rfl) (by decide) (fun c_64 => ?_) (fun c_64 => ?_)
      · refine st_iconst C (v := 0) (dk DX5_digestOfLooks_1 12 rfl) (by decide) ?_
        refine st_istore C (dk DX5_digestOfLooks_1 13 rfl) (by decide) rfl ?_
        exact loop5 5 0 _ _ (by omega) rfl (by rw [hh, hN_0, dg3])
      · exact absurd ((ge_nI (a := 16) (i := 16) (by decide) (by decide) rfl hx).mpr (Nat.le_refl _)) c_64
    | succ m ih =>
      intro i x h hi hx hh
      refine st_iload C (dk DX5_digestOfLooks_0 32 rfl) rfl ?_
      refine st_bipush C (v := 16) (dk DX5_digestOfLooks_0 33 rfl) (by decide) ?_
      refine st_icmp_ge C (tgt := 103) (dk DX5_digestOfLooks_0 34 rfl) (by decide) (fun c_64 => ?_) (fun c_64 => ?_)
      · exact absurd ((ge_nI (a := 16) (i := i) (by decide) (by omega) rfl hx).mp c_64) (by omega)
      · refine st_iconst C (v := 0) (dk DX5_digestOfLooks_0 35 rfl) (by decide) ?_
        refine st_istore C (dk DX5_digestOfLooks_0 36 rfl) (by decide) rfl ?_
        refine inner 7 0 _ i _ _ (by omega) rfl hx (by omega) hh (fun h9 hh9 => ?_)
        refine st_iinc C (dk DX5_digestOfLooks_1 10 rfl) rfl (iadd_ofInt _ (1) (1) (by decide)) (by decide) rfl ?_
        refine st_goto C (tgt := 60) (dk DX5_digestOfLooks_1 11 rfl) (by decide) ?_
        exact ih (i + 1) _ _ (by omega) (up_nI hx) hh9
  have loop2 : ∀ (m i : Nat) (x : Int32) (h : Int64), i + m = 5 → x = nI i → h = hN (fun w => nI (s (1 + w))) (dg1 s k) i → P 0 0 33 [(0, .ref K), (1, .long 3319), (3, .long h), (5, .int x)] [] [(K, ob 4 (kF p o v t y)), (p, ob 0 (cR q1 q2 ns)), (q1, aI G 15 lk), (q2, aI G 16 ld), (v, ob 1 (vF v1 nx sz)), (t, ob 2 (sF t1 t2 t3 t4 zz rc)), (t1, aI G 4624 en), (t2, aJ G 256 sn), (t3, aI G 16 nd), (t4, aI G 16 ln)] := by
    intro m
    induction m with
    | zero =>
      intro i x h hi hx hh
      obtain rfl : i = 5 := by omega
      refine st_iload C (dk DX5_digestOfLooks_0 18 rfl) rfl ?_
      refine st_iconst C (v := 4) (dk DX5_digestOfLooks_0 19 rfl) (by decide) ?_
      refine st_icmp_gt C (tgt := 57) (dk DX5_digestOfLooks_0 20 rfl) (by decide) (fun c_36 => ?_) (fun c_36 => ?_)
      · refine st_iconst C (v := 0) (dk DX5_digestOfLooks_0 30 rfl) (by decide) ?_
        refine st_istore C (dk DX5_digestOfLooks_0 31 rfl) (by decide) rfl ?_
        exact loop3 16 0 _ _ (by omega) rfl (by rw [hh, Nat.mul_zero, hN_0, dg2])
      · exact absurd ((lt_nI (a := 4) (i := 5) (by decide) (by decide) rfl hx).mpr (by decide)) c_36
    | succ m ih =>
      intro i x h hi hx hh
      refine st_iload C (dk DX5_digestOfLooks_0 18 rfl) rfl ?_
      refine st_iconst C (v := 4) (dk DX5_digestOfLooks_0 19 rfl) (by decide) ?_
      refine st_icmp_gt C (tgt := 57) (dk DX5_digestOfLooks_0 20 rfl) (by decide) (fun c_36 => ?_) (fun c_36 => ?_)
      · exact absurd ((lt_nI (a := 4) (i := i) (by decide) (by omega) rfl hx).mp c_36) (by omega)
      · refine st_lload_n C (dk DX5_digestOfLooks_0 21 rfl) rfl ?_
        refine st_aload_n C (dk DX5_digestOfLooks_0 22 rfl) rfl ?_
        refine st_iload C (dk DX5_digestOfLooks_0 23 rfl) rfl ?_
        refine st_cV C (k_X5_numberOfWalker l G hC hx (by omega)) mf_X5_numberOfWalker mi_X5_numberOfWalker ml_RX5_176 (dk DX5_digestOfLooks_0 24 rfl) [0, 1, 2, 3] rfl rfl rfl rfl (Nat.le_of_ble_eq_true rfl) rfl rfl ⟨Nat.le_of_ble_eq_true rfl, Nat.le_of_ble_eq_true rfl⟩ ⟨Nat.zero_le _, Nat.zero_le _⟩ (fun r9 w9 hq9 => ?_)
        obtain ⟨rfl, rfl⟩ := hq9
        show P _ _ _ _ _ [_, _, _, _, _, _, _, _, _, _]
        refine st_i2l C (dk DX5_digestOfLooks_0 25 rfl) ?_
        refine st_cS C (k_X5_mix l G) mf_X5_mix ms_X5_mix ml_RX5_204 (dk DX5_digestOfLooks_0 26 rfl) [] rfl rfl rfl rfl (Nat.le_of_ble_eq_true rfl) ⟨Nat.le_of_ble_eq_true rfl, Nat.le_of_ble_eq_true rfl⟩ ⟨Nat.zero_le _, Nat.zero_le _⟩ (fun r9 w9 hq9 => ?_)
        obtain ⟨rfl, rfl⟩ := hq9
        show P _ _ _ _ _ [_, _, _, _, _, _, _, _, _, _]
        refine st_lstore_n C (dk DX5_digestOfLooks_0 27 rfl) (by decide) rfl rfl ?_
        refine st_iinc C (dk DX5_digestOfLooks_0 28 rfl) rfl (iadd_ofInt _ (1) (1) (by decide)) (by decide) rfl ?_
        refine st_goto C (tgt := 33) (dk DX5_digestOfLooks_0 29 rfl) (by decide) ?_
        exact ih (i + 1) _ _ (by omega) (up_nI hx) (by rw [hh]; exact hN_s _ _ _)
  have loop1 : ∀ (m i : Nat) (x : Int32) (h : Int64), i + m = 7 → x = nI i → h = hN (coI s k) 3319 i → P 0 0 5 [(0, .ref K), (1, .long 3319), (3, .long h), (5, .int x)] [] [(K, ob 4 (kF p o v t y)), (p, ob 0 (cR q1 q2 ns)), (q1, aI G 15 lk), (q2, aI G 16 ld), (v, ob 1 (vF v1 nx sz)), (t, ob 2 (sF t1 t2 t3 t4 zz rc)), (t1, aI G 4624 en), (t2, aJ G 256 sn), (t3, aI G 16 nd), (t4, aI G 16 ln)] := by
    intro m
    induction m with
    | zero =>
      intro i x h hi hx hh
      obtain rfl : i = 7 := by omega
      refine st_iload C (dk DX5_digestOfLooks_0 4 rfl) rfl ?_
      refine st_bipush C (v := 6) (dk DX5_digestOfLooks_0 5 rfl) (by decide) ?_
      refine st_icmp_gt C (tgt := 30) (dk DX5_digestOfLooks_0 6 rfl) (by decide) (fun c_9 => ?_) (fun c_9 => ?_)
      · refine st_iconst C (v := 0) (dk DX5_digestOfLooks_0 16 rfl) (by decide) ?_
        refine st_istore C (dk DX5_digestOfLooks_0 17 rfl) (by decide) rfl ?_
        exact loop2 5 0 _ _ (by omega) rfl (by rw [hh, hN_0, dg1])
      · exact absurd ((lt_nI (a := 6) (i := 7) (by decide) (by decide) rfl hx).mpr (by decide)) c_9
    | succ m ih =>
      intro i x h hi hx hh
      refine st_iload C (dk DX5_digestOfLooks_0 4 rfl) rfl ?_
      refine st_bipush C (v := 6) (dk DX5_digestOfLooks_0 5 rfl) (by decide) ?_
      refine st_icmp_gt C (tgt := 30) (dk DX5_digestOfLooks_0 6 rfl) (by decide) (fun c_9 => ?_) (fun c_9 => ?_)
      · exact absurd ((lt_nI (a := 6) (i := i) (by decide) (by omega) rfl hx).mp c_9) (by omega)
      · refine st_lload_n C (dk DX5_digestOfLooks_0 7 rfl) rfl ?_
        refine st_aload_n C (dk DX5_digestOfLooks_0 8 rfl) rfl ?_
        refine st_iload C (dk DX5_digestOfLooks_0 9 rfl) rfl ?_
        refine st_cV C (k_X5_numberInAll l G hC hsz hx (by omega) (fun _ => hS)) mf_X5_numberInAll mi_X5_numberInAll ml_RX5_181 (dk DX5_digestOfLooks_0 10 rfl) [0, 1, 2, 3, 4, 5, 6, 7, 8, 9] rfl rfl rfl rfl (Nat.le_of_ble_eq_true rfl) rfl rfl ⟨Nat.le_of_ble_eq_true rfl, Nat.le_of_ble_eq_true rfl⟩ ⟨Nat.zero_le _, Nat.zero_le _⟩ (fun r9 w9 hq9 => ?_)
        obtain ⟨rfl, rfl⟩ := hq9
        simp only [put_cons, put_nil, List.set_cons_zero, List.set_cons_succ]
        refine st_i2l C (dk DX5_digestOfLooks_0 11 rfl) ?_
        refine st_cS C (k_X5_mix l G) mf_X5_mix ms_X5_mix ml_RX5_204 (dk DX5_digestOfLooks_0 12 rfl) [] rfl rfl rfl rfl (Nat.le_of_ble_eq_true rfl) ⟨Nat.le_of_ble_eq_true rfl, Nat.le_of_ble_eq_true rfl⟩ ⟨Nat.zero_le _, Nat.zero_le _⟩ (fun r9 w9 hq9 => ?_)
        obtain ⟨rfl, rfl⟩ := hq9
        show P _ _ _ _ _ [_, _, _, _, _, _, _, _, _, _]
        refine st_lstore_n C (dk DX5_digestOfLooks_0 13 rfl) (by decide) rfl rfl ?_
        refine st_iinc C (dk DX5_digestOfLooks_0 14 rfl) rfl (iadd_ofInt _ (1) (1) (by decide)) (by decide) rfl ?_
        refine st_goto C (tgt := 5) (dk DX5_digestOfLooks_0 15 rfl) (by decide) ?_
        exact ih (i + 1) _ _ (by omega) (up_nI hx) (by rw [hh]; exact hN_s _ _ _)
  refine st_lload_n C (dk DX5_digestOfLooks_0 0 rfl) rfl ?_
  refine st_lstore_n C (dk DX5_digestOfLooks_0 1 rfl) (by decide) rfl rfl ?_
  refine st_iconst C (v := 0) (dk DX5_digestOfLooks_0 2 rfl) (by decide) ?_
  refine st_istore C (dk DX5_digestOfLooks_0 3 rfl) (by decide) rfl ?_
  exact loop1 7 0 _ _ (by omega) rfl (hN_0 _ _).symm
