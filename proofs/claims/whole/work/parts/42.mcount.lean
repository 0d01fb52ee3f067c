/-! the reference: counts, with, best -/
set_option maxHeartbeats 4000000 in
set_option maxRecDepth 100000 in
theorem k_X6_keys (l : Launch) (G : wG) {M : Nat} {A : Nat → Nat} {ke ty th ap ft bo ot il : Int32} {s : mS} {f : Nat → Int32} (hf : hd53 f s) (hok : mOk s) : Con0 l G yX6_keys cX6_keys 3 (some .int) 0 [.ref M] [(M, ob 5 (mF A ke ty th ap ft bo ot il)), (A 0, aI G 53 f)] (fun r v9 => r = some (.int (nI (kcN s 16))) ∧ v9 = [(M, ob 5 (mF A ke ty th ap ft bo ot il)), (A 0, aI G 53 f)]) := by
  refine Con.mk (by decide +kernel) (Nat.le_of_ble_eq_true rfl) (fun P C Rr => ?_)
  have loop : ∀ (m i : Nat) (x : Int32) (acc : Int32), i + m = 16 → x = nI i → acc = nI (kcN s i) → P 0 0 17 [(0, .ref M), (1, .int acc), (2, .int x)] [] [(M, ob 5 (mF A ke ty th ap ft bo ot il)), (A 0, aI G 53 f)] := by
    intro m
    induction m with
    | zero =>
      intro i x acc hi hx hacc
      obtain rfl : i = 16 := by omega
      refine st_iload_n C (dk DX6_keys_0 11 rfl) rfl ?_
      refine st_bipush C (v := 16) (dk DX6_keys_0 12 rfl) (by decide) ?_
      refine st_icmp_ge C (tgt := 49) (dk DX6_keys_0 13 rfl) (by decide) (fun c_20 => ?_) (fun c_20 => ?_)
      · refine st_iload_n C (dk DX6_keys_0 29 rfl) rfl ?_
        exact Rr 0 0 _ _ _ _ _ _ (Nat.zero_le _) (Nat.zero_le _) (dk DX6_keys_0 30 rfl) (.inr (.inl ⟨_, rfl, rfl, rfl, rfl⟩)) rfl ⟨rfl, ⟨by rw [hacc], rfl⟩⟩
      · exact absurd ((ge_nI (a := 16) (i := 16) (by decide) (by decide) rfl hx).mpr (Nat.le_refl _)) c_20
    | succ m ih =>
      intro i x acc hi hx hacc
      have h5 := hok.2.2.2.1 i (by omega)
      unfold kAt at h5
      rw [if_neg (by omega)] at h5
      have hv : f ((6 : Int32) + x).toNatClampNeg = nI (s (6 + i)) := by rw [hx]; exact hf.at (nadd 6 i (x := 6) rfl) (by omega)
      refine st_iload_n C (dk DX6_keys_0 11 rfl) rfl ?_
      refine st_bipush C (v := 16) (dk DX6_keys_0 12 rfl) (by decide) ?_
      refine st_icmp_ge C (tgt := 49) (dk DX6_keys_0 13 rfl) (by decide) (fun c_20 => ?_) (fun c_20 => ?_)
      · exact absurd ((ge_nI (a := 16) (i := i) (by decide) (by omega) rfl hx).mp c_20) (by omega)
      · refine st_iload_n C (dk DX6_keys_0 14 rfl) rfl ?_
        refine st_aload_n C (dk DX6_keys_0 15 rfl) rfl ?_
        refine st_get C fl_RX6_7 (dk DX6_keys_0 16 rfl) 0 rfl rfl ?_
        refine st_bipush C (v := 6) (dk DX6_keys_0 17 rfl) (by decide) ?_
        refine st_iload_n C (dk DX6_keys_0 18 rfl) rfl ?_
        refine st_iadd C (dk DX6_keys_0 19 rfl) ?_
        refine st_iald C (dk DX6_keys_0 20 rfl) 1 rfl (by rw [hx]; exact vpA (k := 6) rfl (by omega) (by decide)) ?_
        rw [hv]
        refine st_if_le C (tgt := 40) (dk DX6_keys_0 21 rfl) (by decide) (fun c_33 => ?_) (fun c_33 => ?_)
        · refine st_iconst C (v := 0) (dk DX6_keys_0 24 rfl) (by decide) ?_
          refine st_iadd C (dk DX6_keys_0 25 rfl) ?_
          refine st_istore_n C (dk DX6_keys_0 26 rfl) (by decide) rfl ?_
          refine st_iinc C (dk DX6_keys_0 27 rfl) rfl (iadd_ofInt _ (1) (1) (by decide)) (by decide) rfl ?_
          refine st_goto C (tgt := 17) (dk DX6_keys_0 28 rfl) (by decide) ?_
          exact ih (i + 1) _ _ (by omega) (up_nI hx) (by rw [hacc, show (0 : Int32) = nI 0 from rfl, nI_add]; congr 1; show _ = kcN s i + _; rw [if_neg (by have := (le0_nI (by omega)).mp c_33; omega)])
        · refine st_iconst C (v := 1) (dk DX6_keys_0 22 rfl) (by decide) ?_
          refine st_goto C (tgt := 41) (dk DX6_keys_0 23 rfl) (by decide) ?_
          refine st_iadd C (dk DX6_keys_0 25 rfl) ?_
          refine st_istore_n C (dk DX6_keys_0 26 rfl) (by decide) rfl ?_
          refine st_iinc C (dk DX6_keys_0 27 rfl) rfl (iadd_ofInt _ (1) (1) (by decide)) (by decide) rfl ?_
          refine st_goto C (tgt := 17) (dk DX6_keys_0 28 rfl) (by decide) ?_
          exact ih (i + 1) _ _ (by omega) (up_nI hx) (by rw [hacc, nI_1]; congr 1; show _ = kcN s i + _; rw [if_pos ((gt0_nI (by omega)).mp c_33)])
  refine st_aload_n C (dk DX6_keys_0 0 rfl) rfl ?_
  refine st_get C fl_RX6_7 (dk DX6_keys_0 1 rfl) 0 rfl rfl ?_
  refine st_iconst C (v := 2) (dk DX6_keys_0 2 rfl) (by decide) ?_
  refine st_iald C (dk DX6_keys_0 3 rfl) 1 rfl (vp_nI (show (2 : Int32) = nI 2 from rfl) (by decide) (by decide)) ?_
  have h5 := hok.2.2.2.1 16 (by omega)
  unfold kAt at h5
  rw [if_pos rfl] at h5
  rw [show f (Int32.toNatClampNeg 2) = nI (s 2) from hf.at (x := 2) (j := 2) rfl (by decide)]
  refine st_if_le C (tgt := 13) (dk DX6_keys_0 4 rfl) (by decide) (fun c_6 => ?_) (fun c_6 => ?_)
  · refine st_iconst C (v := 0) (dk DX6_keys_0 7 rfl) (by decide) ?_
    refine st_istore_n C (dk DX6_keys_0 8 rfl) (by decide) rfl ?_
    refine st_iconst C (v := 0) (dk DX6_keys_0 9 rfl) (by decide) ?_
    refine st_istore_n C (dk DX6_keys_0 10 rfl) (by decide) rfl ?_
    exact loop 16 0 _ _ (by omega) rfl (by show _ = nI (if 0 < s 2 then 1 else 0); rw [if_neg (by have := (le0_nI (by omega)).mp c_6; omega)]; rfl)
  · refine st_iconst C (v := 1) (dk DX6_keys_0 5 rfl) (by decide) ?_
    refine st_goto C (tgt := 14) (dk DX6_keys_0 6 rfl) (by decide) ?_
    refine st_istore_n C (dk DX6_keys_0 8 rfl) (by decide) rfl ?_
    refine st_iconst C (v := 0) (dk DX6_keys_0 9 rfl) (by decide) ?_
    refine st_istore_n C (dk DX6_keys_0 10 rfl) (by decide) rfl ?_
    exact loop 16 0 _ _ (by omega) rfl (by show _ = nI (if 0 < s 2 then 1 else 0); rw [if_pos ((gt0_nI (by omega)).mp c_6)]; rfl)
set_option maxHeartbeats 4000000 in
set_option maxRecDepth 100000 in
theorem k_X6_doors (l : Launch) (G : wG) {M : Nat} {A : Nat → Nat} {ke ty th ap ft bo ot il : Int32} {s : mS} {f : Nat → Int32} (hf : hd53 f s) (hok : mOk s) : Con0 l G yX6_doors cX6_doors 3 (some .int) 0 [.ref M] [(M, ob 5 (mF A ke ty th ap ft bo ot il)), (A 0, aI G 53 f)] (fun r v9 => r = some (.int (nI (dcN s 15))) ∧ v9 = [(M, ob 5 (mF A ke ty th ap ft bo ot il)), (A 0, aI G 53 f)]) := by
  refine Con.mk (by decide +kernel) (Nat.le_of_ble_eq_true rfl) (fun P C Rr => ?_)
  have loop : ∀ (m i : Nat) (x : Int32) (acc : Int32), i + m = 15 → x = nI i → acc = nI (dcN s i) → P 0 0 4 [(0, .ref M), (1, .int acc), (2, .int x)] [] [(M, ob 5 (mF A ke ty th ap ft bo ot il)), (A 0, aI G 53 f)] := by
    intro m
    induction m with
    | zero =>
      intro i x acc hi hx hacc
      obtain rfl : i = 15 := by omega
      refine st_iload_n C (dk DX6_doors_0 4 rfl) rfl ?_
      refine st_bipush C (v := 15) (dk DX6_doors_0 5 rfl) (by decide) ?_
      refine st_icmp_ge C (tgt := 36) (dk DX6_doors_0 6 rfl) (by decide) (fun c_7 => ?_) (fun c_7 => ?_)
      · refine st_iload_n C (dk DX6_doors_0 22 rfl) rfl ?_
        exact Rr 0 0 _ _ _ _ _ _ (Nat.zero_le _) (Nat.zero_le _) (dk DX6_doors_0 23 rfl) (.inr (.inl ⟨_, rfl, rfl, rfl, rfl⟩)) rfl ⟨rfl, ⟨by rw [hacc], rfl⟩⟩
      · exact absurd ((ge_nI (a := 15) (i := 15) (by decide) (by decide) rfl hx).mpr (Nat.le_refl _)) c_7
    | succ m ih =>
      intro i x acc hi hx hacc
      have h5 := hok.2.2.2.2.1 i (by omega)
      have hv : f ((22 : Int32) + x).toNatClampNeg = nI (s (22 + i)) := by rw [hx]; exact hf.at (nadd 22 i (x := 22) rfl) (by omega)
      refine st_iload_n C (dk DX6_doors_0 4 rfl) rfl ?_
      refine st_bipush C (v := 15) (dk DX6_doors_0 5 rfl) (by decide) ?_
      refine st_icmp_ge C (tgt := 36) (dk DX6_doors_0 6 rfl) (by decide) (fun c_7 => ?_) (fun c_7 => ?_)
      · exact absurd ((ge_nI (a := 15) (i := i) (by decide) (by omega) rfl hx).mp c_7) (by omega)
      · refine st_iload_n C (dk DX6_doors_0 7 rfl) rfl ?_
        refine st_aload_n C (dk DX6_doors_0 8 rfl) rfl ?_
        refine st_get C fl_RX6_7 (dk DX6_doors_0 9 rfl) 0 rfl rfl ?_
        refine st_bipush C (v := 22) (dk DX6_doors_0 10 rfl) (by decide) ?_
        refine st_iload_n C (dk DX6_doors_0 11 rfl) rfl ?_
        refine st_iadd C (dk DX6_doors_0 12 rfl) ?_
        refine st_iald C (dk DX6_doors_0 13 rfl) 1 rfl (by rw [hx]; exact vpA (k := 22) rfl (by omega) (by decide)) ?_
        rw [hv]
        refine st_if_le C (tgt := 27) (dk DX6_doors_0 14 rfl) (by decide) (fun c_20 => ?_) (fun c_20 => ?_)
        · refine st_iconst C (v := 0) (dk DX6_doors_0 17 rfl) (by decide) ?_
          refine st_iadd C (dk DX6_doors_0 18 rfl) ?_
          refine st_istore_n C (dk DX6_doors_0 19 rfl) (by decide) rfl ?_
          refine st_iinc C (dk DX6_doors_0 20 rfl) rfl (iadd_ofInt _ (1) (1) (by decide)) (by decide) rfl ?_
          refine st_goto C (tgt := 4) (dk DX6_doors_0 21 rfl) (by decide) ?_
          exact ih (i + 1) _ _ (by omega) (up_nI hx) (by rw [hacc, show (0 : Int32) = nI 0 from rfl, nI_add]; congr 1; show _ = dcN s i + _; rw [if_neg (by have := (le0_nI (by omega)).mp c_20; omega)])
        · refine st_iconst C (v := 1) (dk DX6_doors_0 15 rfl) (by decide) ?_
          refine st_goto C (tgt := 28) (dk DX6_doors_0 16 rfl) (by decide) ?_
          refine st_iadd C (dk DX6_doors_0 18 rfl) ?_
          refine st_istore_n C (dk DX6_doors_0 19 rfl) (by decide) rfl ?_
          refine st_iinc C (dk DX6_doors_0 20 rfl) rfl (iadd_ofInt _ (1) (1) (by decide)) (by decide) rfl ?_
          refine st_goto C (tgt := 4) (dk DX6_doors_0 21 rfl) (by decide) ?_
          exact ih (i + 1) _ _ (by omega) (up_nI hx) (by rw [hacc, nI_1]; congr 1; show _ = dcN s i + _; rw [if_pos ((gt0_nI (by omega)).mp c_20)])
  refine st_iconst C (v := 0) (dk DX6_doors_0 0 rfl) (by decide) ?_
  refine st_istore_n C (dk DX6_doors_0 1 rfl) (by decide) rfl ?_
  refine st_iconst C (v := 0) (dk DX6_doors_0 2 rfl) (by decide) ?_
  refine st_istore_n C (dk DX6_doors_0 3 rfl) (by decide) rfl ?_
  exact loop 15 0 _ _ (by omega) rfl rfl
set_option maxHeartbeats 4000000 in
set_option maxRecDepth 100000 in
theorem k_X6_ladders (l : Launch) (G : wG) {M : Nat} {A : Nat → Nat} {ke ty th ap ft bo ot il : Int32} {s : mS} {f : Nat → Int32} (hf : hd53 f s) (hok : mOk s) : Con0 l G yX6_ladders cX6_ladders 3 (some .int) 3 [.ref M] [(M, ob 5 (mF A ke ty th ap ft bo ot il)), (A 0, aI G 53 f)] (fun r v9 => r = some (.int (nI (lcN s 16))) ∧ v9 = [(M, ob 5 (mF A ke ty th ap ft bo ot il)), (A 0, aI G 53 f)]) := by
  refine Con.mk (by decide +kernel) (Nat.le_of_ble_eq_true rfl) (fun P C Rr => ?_)
  have loop : ∀ (m i : Nat) (x : Int32) (acc : Int32), i + m = 16 → x = nI i → acc = nI (lcN s i) → P 0 0 4 [(0, .ref M), (1, .int acc), (2, .int x)] [] [(M, ob 5 (mF A ke ty th ap ft bo ot il)), (A 0, aI G 53 f)] := by
    intro m
    induction m with
    | zero =>
      intro i x acc hi hx hacc
      obtain rfl : i = 16 := by omega
      refine st_iload_n C (dk DX6_ladders_0 4 rfl) rfl ?_
      refine st_bipush C (v := 16) (dk DX6_ladders_0 5 rfl) (by decide) ?_
      refine st_icmp_ge C (tgt := 36) (dk DX6_ladders_0 6 rfl) (by decide) (fun c_7 => ?_) (fun c_7 => ?_)
      · refine st_iload_n C (dk DX6_ladders_0 21 rfl) rfl ?_
        exact Rr 0 0 _ _ _ _ _ _ (Nat.zero_le _) (Nat.zero_le _) (dk DX6_ladders_0 22 rfl) (.inr (.inl ⟨_, rfl, rfl, rfl, rfl⟩)) rfl ⟨rfl, ⟨by rw [hacc], rfl⟩⟩
      · exact absurd ((ge_nI (a := 16) (i := 16) (by decide) (by decide) rfl hx).mpr (Nat.le_refl _)) c_7
    | succ m ih =>
      intro i x acc hi hx hacc
      refine st_iload_n C (dk DX6_ladders_0 4 rfl) rfl ?_
      refine st_bipush C (v := 16) (dk DX6_ladders_0 5 rfl) (by decide) ?_
      refine st_icmp_ge C (tgt := 36) (dk DX6_ladders_0 6 rfl) (by decide) (fun c_7 => ?_) (fun c_7 => ?_)
      · exact absurd ((ge_nI (a := 16) (i := i) (by decide) (by omega) rfl hx).mp c_7) (by omega)
      · refine st_iload_n C (dk DX6_ladders_0 7 rfl) rfl ?_
        refine st_aload_n C (dk DX6_ladders_0 8 rfl) rfl ?_
        refine st_get C fl_RX6_7 (dk DX6_ladders_0 9 rfl) 0 rfl rfl ?_
        refine st_iload_n C (dk DX6_ladders_0 10 rfl) rfl ?_
        refine st_cS C (k_X6_above l G hf hok.1 hok.2.1 hok.2.2.2.2.2 hx (by omega)) mf_X6_above ms_X6_above ml_RX6_71 (dk DX6_ladders_0 11 rfl) [1] rfl rfl rfl rfl (Nat.le_of_ble_eq_true rfl) ⟨Nat.le_of_ble_eq_true rfl, Nat.le_of_ble_eq_true rfl⟩ ⟨Nat.zero_le _, Nat.zero_le _⟩ (fun r9 w9 hq9 => ?_)
        obtain ⟨rfl, rfl⟩ := hq9
        refine st_iconst C (v := -1) (dk DX6_ladders_0 12 rfl) (by decide) ?_
        refine st_icmp_ne C (tgt := 27) (dk DX6_ladders_0 13 rfl) (by decide) (fun c_20 => ?_) (fun c_20 => ?_)
        · refine st_iconst C (v := 1) (dk DX6_ladders_0 16 rfl) (by decide) ?_
          refine st_iadd C (dk DX6_ladders_0 17 rfl) ?_
          refine st_istore_n C (dk DX6_ladders_0 18 rfl) (by decide) rfl ?_
          refine st_iinc C (dk DX6_ladders_0 19 rfl) rfl (iadd_ofInt _ (1) (1) (by decide)) (by decide) rfl ?_
          refine st_goto C (tgt := 4) (dk DX6_ladders_0 20 rfl) (by decide) ?_
          exact ih (i + 1) _ _ (by omega) (up_nI hx) (by rw [hacc, nI_1]; congr 1; show _ = lcN s i + _; cases hq : upN s i with
            | none => exact absurd (by rw [hq]; rfl) c_20
            | some j => rfl)
        · refine st_iconst C (v := 0) (dk DX6_ladders_0 14 rfl) (by decide) ?_
          refine st_goto C (tgt := 28) (dk DX6_ladders_0 15 rfl) (by decide) ?_
          refine st_iadd C (dk DX6_ladders_0 17 rfl) ?_
          refine st_istore_n C (dk DX6_ladders_0 18 rfl) (by decide) rfl ?_
          refine st_iinc C (dk DX6_ladders_0 19 rfl) rfl (iadd_ofInt _ (1) (1) (by decide)) (by decide) rfl ?_
          refine st_goto C (tgt := 4) (dk DX6_ladders_0 20 rfl) (by decide) ?_
          exact ih (i + 1) _ _ (by omega) (up_nI hx) (by rw [hacc, show (0 : Int32) = nI 0 from rfl, nI_add]; congr 1; show _ = lcN s i + _; cases hq : upN s i with
            | none => rfl
            | some j => rw [hq] at c_20; exact absurd c_20 (nI_m1 (by have := upN_lt hq; omega)))
  refine st_iconst C (v := 0) (dk DX6_ladders_0 0 rfl) (by decide) ?_
  refine st_istore_n C (dk DX6_ladders_0 1 rfl) (by decide) rfl ?_
  refine st_iconst C (v := 0) (dk DX6_ladders_0 2 rfl) (by decide) ?_
  refine st_istore_n C (dk DX6_ladders_0 3 rfl) (by decide) rfl ?_
  exact loop 16 0 _ _ (by omega) rfl rfl
set_option maxHeartbeats 4000000 in
set_option maxRecDepth 100000 in
theorem k_X6_longest (l : Launch) (G : wG) {M : Nat} {A : Nat → Nat} {ke ty th ap ft bo ot il : Int32} {s : mS} {qu fr by9 fa fs : Nat → Int32} (hok : mOk s) (hM : MRel (fS s) qu fr by9 fa fs) : Con0 l G yX6_longest cX6_longest 3 (some .int) 1 [.ref M] [(M, ob 5 (mF A ke ty th ap ft bo ot il)), (A 8, aI G 4624 fa), (A 9, aI G 16 fs)] (fun r v9 => r = some (.int (mostI (fS s) 16)) ∧ v9 = [(M, ob 5 (mF A ke ty th ap ft bo ot il)), (A 8, aI G 4624 fa), (A 9, aI G 16 fs)]) := by
  refine Con.mk (by decide +kernel) (Nat.le_of_ble_eq_true rfl) (fun P C Rr => ?_)
  have loop : ∀ (m i : Nat) (x : Int32) (acc : Int32), i + m = 16 → x = nI i → acc = mostI (fS s) i → P 0 0 4 [(0, .ref M), (1, .int acc), (2, .int x)] [] [(M, ob 5 (mF A ke ty th ap ft bo ot il)), (A 8, aI G 4624 fa), (A 9, aI G 16 fs)] := by
    intro m
    induction m with
    | zero =>
      intro i x acc hi hx hacc
      obtain rfl : i = 16 := by omega
      refine st_iload_n C (dk DX6_longest_0 4 rfl) rfl ?_
      refine st_bipush C (v := 16) (dk DX6_longest_0 5 rfl) (by decide) ?_
      refine st_icmp_ge C (tgt := 35) (dk DX6_longest_0 6 rfl) (by decide) (fun c_7 => ?_) (fun c_7 => ?_)
      · refine st_iload_n C (dk DX6_longest_0 20 rfl) rfl ?_
        exact Rr 0 0 _ _ _ _ _ _ (Nat.zero_le _) (Nat.zero_le _) (dk DX6_longest_0 21 rfl) (.inr (.inl ⟨_, rfl, rfl, rfl, rfl⟩)) rfl ⟨rfl, ⟨by rw [hacc], rfl⟩⟩
      · exact absurd ((ge_nI (a := 16) (i := 16) (by decide) (by decide) rfl hx).mpr (Nat.le_refl _)) c_7
    | succ m ih =>
      intro i x acc hi hx hacc
      refine st_iload_n C (dk DX6_longest_0 4 rfl) rfl ?_
      refine st_bipush C (v := 16) (dk DX6_longest_0 5 rfl) (by decide) ?_
      refine st_icmp_ge C (tgt := 35) (dk DX6_longest_0 6 rfl) (by decide) (fun c_7 => ?_) (fun c_7 => ?_)
      · exact absurd ((ge_nI (a := 16) (i := i) (by decide) (by omega) rfl hx).mp c_7) (by omega)
      · refine st_aload_n C (dk DX6_longest_0 7 rfl) rfl ?_
        refine st_iload_n C (dk DX6_longest_0 8 rfl) rfl ?_
        refine st_cV C (k_X6_steps l G hok hM hx (by omega)) mf_X6_steps mi_X6_steps ml_RX6_102 (dk DX6_longest_0 9 rfl) [0, 1, 2] rfl rfl rfl rfl (Nat.le_of_ble_eq_true rfl) rfl rfl ⟨Nat.le_of_ble_eq_true rfl, Nat.le_of_ble_eq_true rfl⟩ ⟨Nat.zero_le _, Nat.zero_le _⟩ (fun r9 w9 hq9 => ?_)
        obtain ⟨rfl, rfl⟩ := hq9
        refine st_iload_n C (dk DX6_longest_0 10 rfl) rfl ?_
        refine st_icmp_le C (tgt := 27) (dk DX6_longest_0 11 rfl) (by decide) (fun c_16 => ?_) (fun c_16 => ?_)
        · refine st_iload_n C (dk DX6_longest_0 16 rfl) rfl ?_
          refine st_istore_n C (dk DX6_longest_0 17 rfl) (by decide) rfl ?_
          refine st_iinc C (dk DX6_longest_0 18 rfl) rfl (iadd_ofInt _ (1) (1) (by decide)) (by decide) rfl ?_
          refine st_goto C (tgt := 4) (dk DX6_longest_0 19 rfl) (by decide) ?_
          exact ih (i + 1) _ _ (by omega) (up_nI hx) (by rw [hacc]; show _ = if _ then _ else _; rw [if_pos (by rw [← hacc]; exact c_16)])
        · refine st_aload_n C (dk DX6_longest_0 12 rfl) rfl ?_
          refine st_iload_n C (dk DX6_longest_0 13 rfl) rfl ?_
          refine st_cV C (k_X6_steps l G hok hM hx (by omega)) mf_X6_steps mi_X6_steps ml_RX6_102 (dk DX6_longest_0 14 rfl) [0, 1, 2] rfl rfl rfl rfl (Nat.le_of_ble_eq_true rfl) rfl rfl ⟨Nat.le_of_ble_eq_true rfl, Nat.le_of_ble_eq_true rfl⟩ ⟨Nat.zero_le _, Nat.zero_le _⟩ (fun r9 w9 hq9 => ?_)
          obtain ⟨rfl, rfl⟩ := hq9
          refine st_goto C (tgt := 28) (dk DX6_longest_0 15 rfl) (by decide) ?_
          refine st_istore_n C (dk DX6_longest_0 17 rfl) (by decide) rfl ?_
          refine st_iinc C (dk DX6_longest_0 18 rfl) rfl (iadd_ofInt _ (1) (1) (by decide)) (by decide) rfl ?_
          refine st_goto C (tgt := 4) (dk DX6_longest_0 19 rfl) (by decide) ?_
          exact ih (i + 1) _ _ (by omega) (up_nI hx) (by show _ = if _ then _ else _; rw [if_neg (by rw [← hacc]; exact c_16)])
  refine st_iconst C (v := 0) (dk DX6_longest_0 0 rfl) (by decide) ?_
  refine st_istore_n C (dk DX6_longest_0 1 rfl) (by decide) rfl ?_
  refine st_iconst C (v := 0) (dk DX6_longest_0 2 rfl) (by decide) ?_
  refine st_istore_n C (dk DX6_longest_0 3 rfl) (by decide) rfl ?_
  exact loop 16 0 _ _ (by omega) rfl rfl
set_option maxHeartbeats 4000000 in
set_option maxRecDepth 100000 in
theorem k_X6_planned (l : Launch) (G : wG) {M : Nat} {A : Nat → Nat} {ke ty th ap ft bo ot il : Int32} {s : mS} {f : Nat → Int32} {qu fr by9 fa fs : Nat → Int32} {x y : Int32} {c a : Nat} (hf : hd53 f s) (hok : mOk s) (hil : il = 0 ∨ (il = 1 ∧ MRel (fS s) qu fr by9 fa fs)) (hx : x = nI c) (hc : c < 16) (hy : y = nI a) (ha : a < 2 ^ 31) : Con0 l G yX6_planned cX6_planned 3 (some .int) 7 [.ref M, .int x, .int y] [(M, ob 5 (mF A ke ty th ap ft bo ot il)), (A 0, aI G 53 f), (A 5, aI G 4624 qu), (A 6, aI G 4624 fr), (A 7, aI G 4624 by9), (A 8, aI G 4624 fa), (A 9, aI G 16 fs)] (fun r v9 => r = some (.int (plI (fS s) c a)) ∧ ∃ (bo9 ot9 : Int32) (qu9 fr9 by99 fa9 fs9 : Nat → Int32), MRel (fS s) qu9 fr9 by99 fa9 fs9 ∧ v9 = [(M, ob 5 (mF A ke ty th ap ft bo9 ot9 1)), (A 0, aI G 53 f), (A 5, aI G 4624 qu9), (A 6, aI G 4624 fr9), (A 7, aI G 4624 by99), (A 8, aI G 4624 fa9), (A 9, aI G 16 fs9)]) := by
  refine Con.mk (by decide +kernel) (Nat.le_of_ble_eq_true rfl) (fun P C Rr => ?_)
  refine st_aload_n C (dk DX6_planned_0 0 rfl) rfl ?_
  refine st_cV C (k_X6_laysNow l G hf hok hil) mf_X6_laysNow mi_X6_laysNow ml_RX6_123 (dk DX6_planned_0 1 rfl) [0, 1, 2, 3, 4, 5, 6] rfl rfl rfl rfl (Nat.le_of_ble_eq_true rfl) rfl rfl ⟨Nat.le_of_ble_eq_true rfl, Nat.le_of_ble_eq_true rfl⟩ ⟨Nat.zero_le _, Nat.zero_le _⟩ (fun r9 w9 hq9 => ?_)
  obtain ⟨rfl, bo1, ot1, qu1, fr1, by1, fa1, fs1, hM1, rfl⟩ := hq9
  refine st_aload_n C (dk DX6_planned_0 2 rfl) rfl ?_
  refine st_iload_n C (dk DX6_planned_0 3 rfl) rfl ?_
  refine st_iload_n C (dk DX6_planned_0 4 rfl) rfl ?_
  refine st_cV C (k_X6_stepAt l G hok hM1 hx hc hy ha) mf_X6_stepAt mi_X6_stepAt ml_RX6_126 (dk DX6_planned_0 5 rfl) [0, 3, 4, 5, 6] rfl rfl rfl rfl (Nat.le_of_ble_eq_true rfl) rfl rfl ⟨Nat.le_of_ble_eq_true rfl, Nat.le_of_ble_eq_true rfl⟩ ⟨Nat.zero_le _, Nat.zero_le _⟩ (fun r9 w9 hq9 => ?_)
  obtain ⟨rfl, rfl⟩ := hq9
  exact Rr 0 0 _ _ _ _ _ _ (Nat.zero_le _) (Nat.zero_le _) (dk DX6_planned_0 6 rfl) (.inr (.inl ⟨_, rfl, rfl, rfl, rfl⟩)) rfl ⟨rfl, ⟨rfl, bo1, ot1, qu1, fr1, by1, fa1, fs1, hM1, rfl⟩⟩
set_option maxHeartbeats 4000000 in
set_option maxRecDepth 100000 in
theorem k_X6_ofCell (l : Launch) (G : wG) {M : Nat} {A : Nat → Nat} {ke ty th ap ft bo ot il : Int32} {s : mS} {f : Nat → Int32} {qu fr by9 fa fs : Nat → Int32} {x y : Int32} {c w : Nat} (hf : hd53 f s) (hok : mOk s) (hil : il = 0 ∨ (il = 1 ∧ MRel (fS s) qu fr by9 fa fs)) (hx : x = nI c) (hc : c < 16) (hy : y = nI w) (hw6 : w ≤ 6) : Con0 l G yX6_ofCell cX6_ofCell 3 (some .int) 7 [.ref M, .int x, .int y] [(M, ob 5 (mF A ke ty th ap ft bo ot il)), (A 0, aI G 53 f), (A 5, aI G 4624 qu), (A 6, aI G 4624 fr), (A 7, aI G 4624 by9), (A 8, aI G 4624 fa), (A 9, aI G 16 fs)] (fun r v9 => r = some (.int (ofI s c w)) ∧ ∃ (bo9 ot9 : Int32) (qu9 fr9 by99 fa9 fs9 : Nat → Int32), MRel (fS s) qu9 fr9 by99 fa9 fs9 ∧ v9 = [(M, ob 5 (mF A ke ty th ap ft bo9 ot9 1)), (A 0, aI G 53 f), (A 5, aI G 4624 qu9), (A 6, aI G 4624 fr9), (A 7, aI G 4624 by99), (A 8, aI G 4624 fa9), (A 9, aI G 16 fs9)]) := by
  refine Con.mk (by decide +kernel) (Nat.le_of_ble_eq_true rfl) (fun P C Rr => ?_)
  have h0 : f (Int32.toNatClampNeg 0) = nI (s 0) := hf.at (j := 0) rfl (by decide)
  have b0 := hok.1
  have b1 := hok.2.1
  have hv : ∀ o : Nat, o + 16 ≤ 53 → f (nI o + x).toNatClampNeg = nI (s (o + c)) := fun o ho => by rw [hx, nI_add]; exact hf.at (j := o + c) rfl (by omega)
  refine st_aload_n C (dk DX6_ofCell_0 0 rfl) rfl ?_
  refine st_cV C (k_X6_laysNow l G hf hok hil) mf_X6_laysNow mi_X6_laysNow ml_RX6_123 (dk DX6_ofCell_0 1 rfl) [0, 1, 2, 3, 4, 5, 6] rfl rfl rfl rfl (Nat.le_of_ble_eq_true rfl) rfl rfl ⟨Nat.le_of_ble_eq_true rfl, Nat.le_of_ble_eq_true rfl⟩ ⟨Nat.zero_le _, Nat.zero_le _⟩ (fun r9 w9 hq9 => ?_)
  obtain ⟨rfl, bo1, ot1, qu1, fr1, by1, fa1, fs1, hM1, rfl⟩ := hq9
  refine st_iload_n C (dk DX6_ofCell_0 2 rfl) rfl ?_
  by_cases t_5_0 : y = 0
  · refine st_tswIn C (off := 39) (tgt := 44) (dk DX6_ofCell_0 3 rfl) (by rw [t_5_0]; decide) (by rw [t_5_0]; decide) (by rw [t_5_0]; rfl) (by decide) ?_
    refine st_aload_n C (dk DX6_ofCell_0 4 rfl) rfl ?_
    refine st_get C fl_RX6_7 (dk DX6_ofCell_0 5 rfl) 0 rfl rfl ?_
    refine st_bipush C (v := 6) (dk DX6_ofCell_0 6 rfl) (by decide) ?_
    refine st_iload_n C (dk DX6_ofCell_0 7 rfl) rfl ?_
    refine st_iadd C (dk DX6_ofCell_0 8 rfl) ?_
    refine st_iald C (dk DX6_ofCell_0 9 rfl) 1 rfl (by rw [hx]; exact vpA (k := 6) rfl (by omega) (by decide)) ?_
    refine Rr 0 0 _ _ _ _ _ _ (Nat.zero_le _) (Nat.zero_le _) (dk DX6_ofCell_0 10 rfl) (.inr (.inl ⟨_, rfl, rfl, rfl, rfl⟩)) rfl ?_
    have hw : w = 0 := (eq_nI (a := w) (i := 0) (by omega) (by decide) hy rfl).mp t_5_0
    exact ⟨rfl, by rw [hw, show f ((6 : Int32) + x).toNatClampNeg = nI (s (6 + c)) from hv 6 (by decide), ofI0], bo1, ot1, qu1, fr1, by1, fa1, fs1, hM1, rfl⟩
  by_cases t_5_1 : y = 1
  · refine st_tswIn C (off := 49) (tgt := 54) (dk DX6_ofCell_0 3 rfl) (by rw [t_5_1]; decide) (by rw [t_5_1]; decide) (by rw [t_5_1]; rfl) (by decide) ?_
    refine st_iload_n C (dk DX6_ofCell_0 11 rfl) rfl ?_
    refine st_bipush C (v := 15) (dk DX6_ofCell_0 12 rfl) (by decide) ?_
    refine st_icmp_ge C (tgt := 72) (dk DX6_ofCell_0 13 rfl) (by decide) (fun c_57 => ?_) (fun c_57 => ?_)
    · refine st_iconst C (v := 0) (dk DX6_ofCell_0 21 rfl) (by decide) ?_
      refine Rr 0 0 _ _ _ _ _ _ (Nat.zero_le _) (Nat.zero_le _) (dk DX6_ofCell_0 22 rfl) (.inr (.inl ⟨_, rfl, rfl, rfl, rfl⟩)) rfl ?_
      have hw : w = 1 := (eq_nI (a := w) (i := 1) (by omega) (by decide) hy rfl).mp t_5_1
      exact ⟨rfl, by rw [hw, ofI1, if_neg (by have := (ge_nI (a := 15) (i := c) (by decide) (by omega) rfl hx).mp c_57; omega)], bo1, ot1, qu1, fr1, by1, fa1, fs1, hM1, rfl⟩
    · refine st_aload_n C (dk DX6_ofCell_0 14 rfl) rfl ?_
      refine st_get C fl_RX6_7 (dk DX6_ofCell_0 15 rfl) 0 rfl rfl ?_
      refine st_bipush C (v := 22) (dk DX6_ofCell_0 16 rfl) (by decide) ?_
      refine st_iload_n C (dk DX6_ofCell_0 17 rfl) rfl ?_
      refine st_iadd C (dk DX6_ofCell_0 18 rfl) ?_
      refine st_iald C (dk DX6_ofCell_0 19 rfl) 1 rfl (by rw [hx]; exact vpA (k := 22) rfl (by have := mt (ge_nI (a := 15) (i := c) (by decide) (by omega) rfl hx).mpr c_57; omega) (by decide)) ?_
      refine st_goto C (tgt := 73) (dk DX6_ofCell_0 20 rfl) (by decide) ?_
      refine Rr 0 0 _ _ _ _ _ _ (Nat.zero_le _) (Nat.zero_le _) (dk DX6_ofCell_0 22 rfl) (.inr (.inl ⟨_, rfl, rfl, rfl, rfl⟩)) rfl ?_
      have hw : w = 1 := (eq_nI (a := w) (i := 1) (by omega) (by decide) hy rfl).mp t_5_1
      exact ⟨rfl, by rw [hw, show f ((22 : Int32) + x).toNatClampNeg = nI (s (22 + c)) from hv 22 (by decide), ofI1, if_pos (by have := mt (ge_nI (a := 15) (i := c) (by decide) (by omega) rfl hx).mpr c_57; omega)], bo1, ot1, qu1, fr1, by1, fa1, fs1, hM1, rfl⟩
  by_cases t_5_2 : y = 2
  · refine st_tswIn C (off := 69) (tgt := 74) (dk DX6_ofCell_0 3 rfl) (by rw [t_5_2]; decide) (by rw [t_5_2]; decide) (by rw [t_5_2]; rfl) (by decide) ?_
    refine st_aload_n C (dk DX6_ofCell_0 23 rfl) rfl ?_
    refine st_get C fl_RX6_7 (dk DX6_ofCell_0 24 rfl) 0 rfl rfl ?_
    refine st_bipush C (v := 37) (dk DX6_ofCell_0 25 rfl) (by decide) ?_
    refine st_iload_n C (dk DX6_ofCell_0 26 rfl) rfl ?_
    refine st_iadd C (dk DX6_ofCell_0 27 rfl) ?_
    refine st_iald C (dk DX6_ofCell_0 28 rfl) 1 rfl (by rw [hx]; exact vpA (k := 37) rfl (by omega) (by decide)) ?_
    refine Rr 0 0 _ _ _ _ _ _ (Nat.zero_le _) (Nat.zero_le _) (dk DX6_ofCell_0 29 rfl) (.inr (.inl ⟨_, rfl, rfl, rfl, rfl⟩)) rfl ?_
    have hw : w = 2 := (eq_nI (a := w) (i := 2) (by omega) (by decide) hy rfl).mp t_5_2
    exact ⟨rfl, by rw [hw, show f ((37 : Int32) + x).toNatClampNeg = nI (s (37 + c)) from hv 37 (by decide), ofI2], bo1, ot1, qu1, fr1, by1, fa1, fs1, hM1, rfl⟩
  by_cases t_5_3 : y = 3
  · refine st_tswIn C (off := 79) (tgt := 84) (dk DX6_ofCell_0 3 rfl) (by rw [t_5_3]; decide) (by rw [t_5_3]; decide) (by rw [t_5_3]; rfl) (by decide) ?_
    refine st_iload_n C (dk DX6_ofCell_0 30 rfl) rfl ?_
    refine st_aload_n C (dk DX6_ofCell_0 31 rfl) rfl ?_
    refine st_get C fl_RX6_7 (dk DX6_ofCell_0 32 rfl) 0 rfl rfl ?_
    refine st_iconst C (v := 0) (dk DX6_ofCell_0 33 rfl) (by decide) ?_
    refine st_iald C (dk DX6_ofCell_0 34 rfl) 1 rfl (vp_nI (show (0 : Int32) = nI 0 from rfl) (by decide) (by decide)) ?_
    refine st_idiv C (dk DX6_ofCell_0 35 rfl) (by rw [h0]; exact nI_ne0 (by omega) (by omega)) ?_
    refine Rr 0 0 _ _ _ _ _ _ (Nat.zero_le _) (Nat.zero_le _) (dk DX6_ofCell_0 36 rfl) (.inr (.inl ⟨_, rfl, rfl, rfl, rfl⟩)) rfl ?_
    have hw : w = 3 := (eq_nI (a := w) (i := 3) (by omega) (by decide) hy rfl).mp t_5_3
    exact ⟨rfl, by rw [hw, h0, hx, pk_div (by omega) (by omega) (by omega), ofI3], bo1, ot1, qu1, fr1, by1, fa1, fs1, hM1, rfl⟩
  by_cases t_5_4 : y = 4
  · refine st_tswIn C (off := 88) (tgt := 93) (dk DX6_ofCell_0 3 rfl) (by rw [t_5_4]; decide) (by rw [t_5_4]; decide) (by rw [t_5_4]; rfl) (by decide) ?_
    refine st_aload_n C (dk DX6_ofCell_0 37 rfl) rfl ?_
    refine st_get C fl_RX6_7 (dk DX6_ofCell_0 38 rfl) 0 rfl rfl ?_
    refine st_iload_n C (dk DX6_ofCell_0 39 rfl) rfl ?_
    refine st_cS C (k_X6_below l G hf hok.1 hok.2.1 hok.2.2.2.2.2 hx hc) mf_X6_below ms_X6_below ml_RX6_67 (dk DX6_ofCell_1 0 rfl) [1] rfl rfl rfl rfl (Nat.le_of_ble_eq_true rfl) ⟨Nat.le_of_ble_eq_true rfl, Nat.le_of_ble_eq_true rfl⟩ ⟨Nat.zero_le _, Nat.zero_le _⟩ (fun r9 w9 hq9 => ?_)
    obtain ⟨rfl, rfl⟩ := hq9
    refine Rr 0 0 _ _ _ _ _ _ (Nat.zero_le _) (Nat.zero_le _) (dk DX6_ofCell_1 1 rfl) (.inr (.inl ⟨_, rfl, rfl, rfl, rfl⟩)) rfl ?_
    have hw : w = 4 := (eq_nI (a := w) (i := 4) (by omega) (by decide) hy rfl).mp t_5_4
    exact ⟨rfl, by rw [hw, ofI4], bo1, ot1, qu1, fr1, by1, fa1, fs1, hM1, rfl⟩
  by_cases t_5_5 : y = 5
  · refine st_tswIn C (off := 97) (tgt := 102) (dk DX6_ofCell_0 3 rfl) (by rw [t_5_5]; decide) (by rw [t_5_5]; decide) (by rw [t_5_5]; rfl) (by decide) ?_
    refine st_aload_n C (dk DX6_ofCell_1 2 rfl) rfl ?_
    refine st_get C fl_RX6_7 (dk DX6_ofCell_1 3 rfl) 0 rfl rfl ?_
    refine st_iload_n C (dk DX6_ofCell_1 4 rfl) rfl ?_
    refine st_cS C (k_X6_above l G hf hok.1 hok.2.1 hok.2.2.2.2.2 hx hc) mf_X6_above ms_X6_above ml_RX6_71 (dk DX6_ofCell_1 5 rfl) [1] rfl rfl rfl rfl (Nat.le_of_ble_eq_true rfl) ⟨Nat.le_of_ble_eq_true rfl, Nat.le_of_ble_eq_true rfl⟩ ⟨Nat.zero_le _, Nat.zero_le _⟩ (fun r9 w9 hq9 => ?_)
    obtain ⟨rfl, rfl⟩ := hq9
    refine Rr 0 0 _ _ _ _ _ _ (Nat.zero_le _) (Nat.zero_le _) (dk DX6_ofCell_1 6 rfl) (.inr (.inl ⟨_, rfl, rfl, rfl, rfl⟩)) rfl ?_
    have hw : w = 5 := (eq_nI (a := w) (i := 5) (by omega) (by decide) hy rfl).mp t_5_5
    exact ⟨rfl, by rw [hw, ofI5], bo1, ot1, qu1, fr1, by1, fa1, fs1, hM1, rfl⟩
  refine st_tswOut C (tgt := 111) (dk DX6_ofCell_0 3 rfl) (tsw_out 6 (by decide) (by decide) (fun j hj => match j, hj with | 0, _ => t_5_0 | 1, _ => t_5_1 | 2, _ => t_5_2 | 3, _ => t_5_3 | 4, _ => t_5_4 | 5, _ => t_5_5)) (by decide) ?_
  refine st_aload_n C (dk DX6_ofCell_1 7 rfl) rfl ?_
  refine st_iload_n C (dk DX6_ofCell_1 8 rfl) rfl ?_
  refine st_cV C (k_X6_steps l G hok hM1 hx hc) mf_X6_steps mi_X6_steps ml_RX6_102 (dk DX6_ofCell_1 9 rfl) [0, 5, 6] rfl rfl rfl rfl (Nat.le_of_ble_eq_true rfl) rfl rfl ⟨Nat.le_of_ble_eq_true rfl, Nat.le_of_ble_eq_true rfl⟩ ⟨Nat.zero_le _, Nat.zero_le _⟩ (fun r9 w9 hq9 => ?_)
  obtain ⟨rfl, rfl⟩ := hq9
  refine Rr 0 0 _ _ _ _ _ _ (Nat.zero_le _) (Nat.zero_le _) (dk DX6_ofCell_1 10 rfl) (.inr (.inl ⟨_, rfl, rfl, rfl, rfl⟩)) rfl ?_
  have hw : w = 6 := by
    have : ¬ w = 0 := fun h => t_5_0 (by rw [hy, h]; rfl)
    have : ¬ w = 1 := fun h => t_5_1 (by rw [hy, h]; rfl)
    have : ¬ w = 2 := fun h => t_5_2 (by rw [hy, h]; rfl)
    have : ¬ w = 3 := fun h => t_5_3 (by rw [hy, h]; rfl)
    have : ¬ w = 4 := fun h => t_5_4 (by rw [hy, h]; rfl)
    have : ¬ w = 5 := fun h => t_5_5 (by rw [hy, h]; rfl)
    omega
  exact ⟨rfl, by rw [hw, ofI6], bo1, ot1, qu1, fr1, by1, fa1, fs1, hM1, rfl⟩
set_option maxHeartbeats 4000000 in
set_option maxRecDepth 100000 in
theorem k_X6_counted (l : Launch) (G : wG) {M : Nat} {A : Nat → Nat} {ke ty th ap ft bo ot il : Int32} {s : mS} {f : Nat → Int32} {qu fr by9 fa fs : Nat → Int32} {y : Int32} {k w : Nat} (hf : hd53 f s) (hok : mOk s) (hil : il = 0 ∨ (il = 1 ∧ MRel (fS s) qu fr by9 fa fs)) (hke : ke = nI k) (hy : y = nI w) (hw6 : w ≤ 6) : Con0 l G yX6_counted cX6_counted 2 (some .int) 7 [.ref M, .int y] [(M, ob 5 (mF A ke ty th ap ft bo ot il)), (A 0, aI G 53 f), (A 5, aI G 4624 qu), (A 6, aI G 4624 fr), (A 7, aI G 4624 by9), (A 8, aI G 4624 fa), (A 9, aI G 16 fs)] (fun r v9 => r = some (.int (coI s k w)) ∧ ∃ (bo9 ot9 : Int32) (qu9 fr9 by99 fa9 fs9 : Nat → Int32), MRel (fS s) qu9 fr9 by99 fa9 fs9 ∧ v9 = [(M, ob 5 (mF A ke ty th ap ft bo9 ot9 1)), (A 0, aI G 53 f), (A 5, aI G 4624 qu9), (A 6, aI G 4624 fr9), (A 7, aI G 4624 by99), (A 8, aI G 4624 fa9), (A 9, aI G 16 fs9)]) := by
  refine Con.mk (by decide +kernel) (Nat.le_of_ble_eq_true rfl) (fun P C Rr => ?_)
  have h0 : f (Int32.toNatClampNeg 0) = nI (s 0) := hf.at (j := 0) rfl (by decide)
  refine st_aload_n C (dk DX6_counted_0 0 rfl) rfl ?_
  refine st_cV C (k_X6_laysNow l G hf hok hil) mf_X6_laysNow mi_X6_laysNow ml_RX6_123 (dk DX6_counted_0 1 rfl) [0, 1, 2, 3, 4, 5, 6] rfl rfl rfl rfl (Nat.le_of_ble_eq_true rfl) rfl rfl ⟨Nat.le_of_ble_eq_true rfl, Nat.le_of_ble_eq_true rfl⟩ ⟨Nat.zero_le _, Nat.zero_le _⟩ (fun r9 w9 hq9 => ?_)
  obtain ⟨rfl, bo1, ot1, qu1, fr1, by1, fa1, fs1, hM1, rfl⟩ := hq9
  refine st_iload_n C (dk DX6_counted_0 2 rfl) rfl ?_
  by_cases t_5_0 : y = 0
  · refine st_tswIn C (off := 39) (tgt := 44) (dk DX6_counted_0 3 rfl) (by rw [t_5_0]; decide) (by rw [t_5_0]; decide) (by rw [t_5_0]; rfl) (by decide) ?_
    refine st_aload_n C (dk DX6_counted_0 4 rfl) rfl ?_
    refine st_cV C (k_X6_keys l G hf hok) mf_X6_keys mi_X6_keys ml_RX6_112 (dk DX6_counted_0 5 rfl) [0, 1] rfl rfl rfl rfl (Nat.le_of_ble_eq_true rfl) rfl rfl ⟨Nat.le_of_ble_eq_true rfl, Nat.le_of_ble_eq_true rfl⟩ ⟨Nat.zero_le _, Nat.zero_le _⟩ (fun r9 w9 hq9 => ?_)
    obtain ⟨rfl, rfl⟩ := hq9
    refine Rr 0 0 _ _ _ _ _ _ (Nat.zero_le _) (Nat.zero_le _) (dk DX6_counted_0 6 rfl) (.inr (.inl ⟨_, rfl, rfl, rfl, rfl⟩)) rfl ?_
    have hw : w = 0 := (eq_nI (a := w) (i := 0) (by omega) (by decide) hy rfl).mp t_5_0
    exact ⟨rfl, by rw [hw, coI0], bo1, ot1, qu1, fr1, by1, fa1, fs1, hM1, rfl⟩
  by_cases t_5_1 : y = 1
  · refine st_tswIn C (off := 44) (tgt := 49) (dk DX6_counted_0 3 rfl) (by rw [t_5_1]; decide) (by rw [t_5_1]; decide) (by rw [t_5_1]; rfl) (by decide) ?_
    refine st_aload_n C (dk DX6_counted_0 7 rfl) rfl ?_
    refine st_cV C (k_X6_doors l G hf hok) mf_X6_doors mi_X6_doors ml_RX6_152 (dk DX6_counted_0 8 rfl) [0, 1] rfl rfl rfl rfl (Nat.le_of_ble_eq_true rfl) rfl rfl ⟨Nat.le_of_ble_eq_true rfl, Nat.le_of_ble_eq_true rfl⟩ ⟨Nat.zero_le _, Nat.zero_le _⟩ (fun r9 w9 hq9 => ?_)
    obtain ⟨rfl, rfl⟩ := hq9
    refine Rr 0 0 _ _ _ _ _ _ (Nat.zero_le _) (Nat.zero_le _) (dk DX6_counted_0 9 rfl) (.inr (.inl ⟨_, rfl, rfl, rfl, rfl⟩)) rfl ?_
    have hw : w = 1 := (eq_nI (a := w) (i := 1) (by omega) (by decide) hy rfl).mp t_5_1
    exact ⟨rfl, by rw [hw, coI1], bo1, ot1, qu1, fr1, by1, fa1, fs1, hM1, rfl⟩
  by_cases t_5_2 : y = 2
  · refine st_tswIn C (off := 49) (tgt := 54) (dk DX6_counted_0 3 rfl) (by rw [t_5_2]; decide) (by rw [t_5_2]; decide) (by rw [t_5_2]; rfl) (by decide) ?_
    refine st_aload_n C (dk DX6_counted_0 10 rfl) rfl ?_
    refine st_cV C (k_X6_ladders l G hf hok) mf_X6_ladders mi_X6_ladders ml_RX6_155 (dk DX6_counted_0 11 rfl) [0, 1] rfl rfl rfl rfl (Nat.le_of_ble_eq_true rfl) rfl rfl ⟨Nat.le_of_ble_eq_true rfl, Nat.le_of_ble_eq_true rfl⟩ ⟨Nat.zero_le _, Nat.zero_le _⟩ (fun r9 w9 hq9 => ?_)
    obtain ⟨rfl, rfl⟩ := hq9
    refine Rr 0 0 _ _ _ _ _ _ (Nat.zero_le _) (Nat.zero_le _) (dk DX6_counted_0 12 rfl) (.inr (.inl ⟨_, rfl, rfl, rfl, rfl⟩)) rfl ?_
    have hw : w = 2 := (eq_nI (a := w) (i := 2) (by omega) (by decide) hy rfl).mp t_5_2
    exact ⟨rfl, by rw [hw, coI2], bo1, ot1, qu1, fr1, by1, fa1, fs1, hM1, rfl⟩
  by_cases t_5_3 : y = 3
  · refine st_tswIn C (off := 54) (tgt := 59) (dk DX6_counted_0 3 rfl) (by rw [t_5_3]; decide) (by rw [t_5_3]; decide) (by rw [t_5_3]; rfl) (by decide) ?_
    refine st_aload_n C (dk DX6_counted_0 13 rfl) rfl ?_
    refine st_cV C (k_X6_reachable l G hok hM1) mf_X6_reachable mi_X6_reachable ml_RX6_158 (dk DX6_counted_0 14 rfl) [0, 6] rfl rfl rfl rfl (Nat.le_of_ble_eq_true rfl) rfl rfl ⟨Nat.le_of_ble_eq_true rfl, Nat.le_of_ble_eq_true rfl⟩ ⟨Nat.zero_le _, Nat.zero_le _⟩ (fun r9 w9 hq9 => ?_)
    obtain ⟨rfl, rfl⟩ := hq9
    refine Rr 0 0 _ _ _ _ _ _ (Nat.zero_le _) (Nat.zero_le _) (dk DX6_counted_0 15 rfl) (.inr (.inl ⟨_, rfl, rfl, rfl, rfl⟩)) rfl ?_
    have hw : w = 3 := (eq_nI (a := w) (i := 3) (by omega) (by decide) hy rfl).mp t_5_3
    exact ⟨rfl, by rw [hw, coI3], bo1, ot1, qu1, fr1, by1, fa1, fs1, hM1, rfl⟩
  by_cases t_5_4 : y = 4
  · refine st_tswIn C (off := 59) (tgt := 64) (dk DX6_counted_0 3 rfl) (by rw [t_5_4]; decide) (by rw [t_5_4]; decide) (by rw [t_5_4]; rfl) (by decide) ?_
    refine st_aload_n C (dk DX6_counted_0 16 rfl) rfl ?_
    refine st_cV C (k_X6_longest l G hok hM1) mf_X6_longest mi_X6_longest ml_RX6_161 (dk DX6_counted_0 17 rfl) [0, 5, 6] rfl rfl rfl rfl (Nat.le_of_ble_eq_true rfl) rfl rfl ⟨Nat.le_of_ble_eq_true rfl, Nat.le_of_ble_eq_true rfl⟩ ⟨Nat.zero_le _, Nat.zero_le _⟩ (fun r9 w9 hq9 => ?_)
    obtain ⟨rfl, rfl⟩ := hq9
    refine Rr 0 0 _ _ _ _ _ _ (Nat.zero_le _) (Nat.zero_le _) (dk DX6_counted_0 18 rfl) (.inr (.inl ⟨_, rfl, rfl, rfl, rfl⟩)) rfl ?_
    have hw : w = 4 := (eq_nI (a := w) (i := 4) (by omega) (by decide) hy rfl).mp t_5_4
    exact ⟨rfl, by rw [hw, coI4], bo1, ot1, qu1, fr1, by1, fa1, fs1, hM1, rfl⟩
  by_cases t_5_5 : y = 5
  · refine st_tswIn C (off := 64) (tgt := 69) (dk DX6_counted_0 3 rfl) (by rw [t_5_5]; decide) (by rw [t_5_5]; decide) (by rw [t_5_5]; rfl) (by decide) ?_
    refine st_aload_n C (dk DX6_counted_0 19 rfl) rfl ?_
    refine st_get C fl_RX6_7 (dk DX6_counted_0 20 rfl) 0 rfl rfl ?_
    refine st_iconst C (v := 0) (dk DX6_counted_0 21 rfl) (by decide) ?_
    refine st_iald C (dk DX6_counted_0 22 rfl) 1 rfl (vp_nI (show (0 : Int32) = nI 0 from rfl) (by decide) (by decide)) ?_
    refine Rr 0 0 _ _ _ _ _ _ (Nat.zero_le _) (Nat.zero_le _) (dk DX6_counted_0 23 rfl) (.inr (.inl ⟨_, rfl, rfl, rfl, rfl⟩)) rfl ?_
    have hw : w = 5 := (eq_nI (a := w) (i := 5) (by omega) (by decide) hy rfl).mp t_5_5
    exact ⟨rfl, by rw [hw, h0, coI5], bo1, ot1, qu1, fr1, by1, fa1, fs1, hM1, rfl⟩
  refine st_tswOut C (tgt := 76) (dk DX6_counted_0 3 rfl) (tsw_out 6 (by decide) (by decide) (fun j hj => match j, hj with | 0, _ => t_5_0 | 1, _ => t_5_1 | 2, _ => t_5_2 | 3, _ => t_5_3 | 4, _ => t_5_4 | 5, _ => t_5_5)) (by decide) ?_
  refine st_aload_n C (dk DX6_counted_0 24 rfl) rfl ?_
  refine st_get C fl_RX6_52 (dk DX6_counted_0 25 rfl) 0 rfl rfl ?_
  refine Rr 0 0 _ _ _ _ _ _ (Nat.zero_le _) (Nat.zero_le _) (dk DX6_counted_0 26 rfl) (.inr (.inl ⟨_, rfl, rfl, rfl, rfl⟩)) rfl ?_
  have hw : w = 6 := by
    have : ¬ w = 0 := fun h => t_5_0 (by rw [hy, h]; rfl)
    have : ¬ w = 1 := fun h => t_5_1 (by rw [hy, h]; rfl)
    have : ¬ w = 2 := fun h => t_5_2 (by rw [hy, h]; rfl)
    have : ¬ w = 3 := fun h => t_5_3 (by rw [hy, h]; rfl)
    have : ¬ w = 4 := fun h => t_5_4 (by rw [hy, h]; rfl)
    have : ¬ w = 5 := fun h => t_5_5 (by rw [hy, h]; rfl)
    omega
  exact ⟨rfl, by rw [hw, hke, coI6], bo1, ot1, qu1, fr1, by1, fa1, fs1, hM1, rfl⟩
set_option maxHeartbeats 4000000 in
set_option maxRecDepth 100000 in
theorem k_X6_with (l : Launch) (G : wG) {M : Nat} {A : Nat → Nat} {ke ty th ap ft bo ot il : Int32} {s : mS} {f : Nat → Int32} {qu fr by9 fa fs : Nat → Int32} {f1 : Nat → Int32} {x y : Int32} {k v : Nat} (hf : hd53 f s) (hok : mOk (updS s k v)) (hx : x = nI k) (hk : k < 53) (hy : y = nI v) : Con0 l G yX6_with cX6_with 3 (some .int) 6 [.ref M, .int x, .int y] [(M, ob 5 (mF A ke ty th ap ft bo ot il)), (A 0, aI G 53 f), (A 1, aI G 53 f1), (A 5, aI G 4624 qu), (A 6, aI G 4624 fr), (A 7, aI G 4624 by9), (A 8, aI G 4624 fa), (A 9, aI G 16 fs)] (fun r v9 => r = some (.int (nI (cnt (fS (updS s k v)) 16))) ∧ ∃ (bo9 ot9 : Int32) (f19 qu9 fr9 by99 fa9 fs9 : Nat → Int32), MRel (fS (updS s k v)) qu9 fr9 by99 fa9 fs9 ∧ v9 = [(M, ob 5 (mF A ke ty th ap ft bo9 ot9 0)), (A 0, aI G 53 f), (A 1, aI G 53 f19), (A 5, aI G 4624 qu9), (A 6, aI G 4624 fr9), (A 7, aI G 4624 by99), (A 8, aI G 4624 fa9), (A 9, aI G 16 fs9)]) := by
  refine Con.mk (by decide +kernel) (Nat.le_of_ble_eq_true rfl) (fun P C Rr => ?_)
  refine st_aload_n C (dk DX6_with_0 0 rfl) rfl ?_
  refine st_get C fl_RX6_7 (dk DX6_with_0 1 rfl) 0 rfl rfl ?_
  refine st_iconst C (v := 0) (dk DX6_with_0 2 rfl) (by decide) ?_
  refine st_aload_n C (dk DX6_with_0 3 rfl) rfl ?_
  refine st_get C fl_RX6_13 (dk DX6_with_0 4 rfl) 0 rfl rfl ?_
  refine st_iconst C (v := 0) (dk DX6_with_0 5 rfl) (by decide) ?_
  refine st_cS C (k_X6_copies l G (fa := 0) (ta := 0) rfl rfl (by decide) (by decide) (by decide) (by decide)) mf_X6_copies ms_X6_copies ml_RX6_55 (dk DX6_with_0 6 rfl) [1, 2] rfl rfl rfl rfl (Nat.le_of_ble_eq_true rfl) ⟨Nat.le_of_ble_eq_true rfl, Nat.le_of_ble_eq_true rfl⟩ ⟨Nat.zero_le _, Nat.zero_le _⟩ (fun r9 w9 hq9 => ?_)
  obtain ⟨rfl, h10, hA10, hB10, rfl⟩ := hq9
  refine st_aload_n C (dk DX6_with_0 7 rfl) rfl ?_
  refine st_get C fl_RX6_13 (dk DX6_with_0 8 rfl) 0 rfl rfl ?_
  refine st_iload_n C (dk DX6_with_0 9 rfl) rfl ?_
  refine st_iload_n C (dk DX6_with_0 10 rfl) rfl ?_
  refine st_iast C (dk DX6_with_0 11 rfl) 2 rfl (vp_nI hx hk (by decide)) ?_
  have hf0 : hd53 h10 s := fun j hj => by have h9 := hA10 j hj; rw [Nat.zero_add] at h9; rw [h9]; exact hf j hj
  have hf1 : hd53 (upd h10 x.toNatClampNeg y) (updS s k v) := hf0.upd hx (by omega) hy
  refine st_aload_n C (dk DX6_with_0 12 rfl) rfl ?_
  refine st_aload_n C (dk DX6_with_0 13 rfl) rfl ?_
  refine st_get C fl_RX6_13 (dk DX6_with_0 14 rfl) 0 rfl rfl ?_
  refine st_cV C (k_X6_lays l G hf1 hok) mf_X6_lays mi_X6_lays ml_RX6_98 (dk DX6_with_0 15 rfl) [0, 3, 4, 5, 6, 7, 2] rfl rfl rfl rfl (Nat.le_of_ble_eq_true rfl) rfl rfl ⟨Nat.le_of_ble_eq_true rfl, Nat.le_of_ble_eq_true rfl⟩ ⟨Nat.zero_le _, Nat.zero_le _⟩ (fun r9 w9 hq9 => ?_)
  obtain ⟨rfl, qu25, fr25, by25, fa25, fs25, hM25, rfl⟩ := hq9
  refine st_aload_n C (dk DX6_with_0 16 rfl) rfl ?_
  refine st_iconst C (v := 0) (dk DX6_with_0 17 rfl) (by decide) ?_
  refine st_put C fl_RX6_48 fc_5 fw_5_17 (dk DX6_with_0 18 rfl) 0 rfl rfl rfl (Nat.le_of_ble_eq_true rfl) ?_
  refine st_aload_n C (dk DX6_with_0 19 rfl) rfl ?_
  refine st_cV C (k_X6_reachable l G hok hM25) mf_X6_reachable mi_X6_reachable ml_RX6_158 (dk DX6_with_0 20 rfl) [0, 7] rfl rfl rfl rfl (Nat.le_of_ble_eq_true rfl) rfl rfl ⟨Nat.le_of_ble_eq_true rfl, Nat.le_of_ble_eq_true rfl⟩ ⟨Nat.zero_le _, Nat.zero_le _⟩ (fun r9 w9 hq9 => ?_)
  obtain ⟨rfl, rfl⟩ := hq9
  exact Rr 0 0 _ _ _ _ _ _ (Nat.zero_le _) (Nat.zero_le _) (dk DX6_with_0 21 rfl) (.inr (.inl ⟨_, rfl, rfl, rfl, rfl⟩)) rfl ⟨rfl, ⟨rfl, _, _, _, _, _, _, _, _, hM25, rfl⟩⟩
