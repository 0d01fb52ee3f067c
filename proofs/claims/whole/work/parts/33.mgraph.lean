/-! the reference: its graph -/
theorem gt0_nI {b : Nat} (h : b < 2 ^ 31) : ¬ nI b ≤ 0 ↔ 0 < b := by rw [le0_nI h]; omega
theorem bgnN_le {s : mS} (h : ∀ a, a ≤ 16 → kAt s a ≤ 5) : ∀ n, n ≤ 16 → (bgnN s n).1 ≤ 5 ∧ (bgnN s n).2.1 ≤ 16 ∧ (bgnN s n).2.2.1 ≤ 5 ∧ (bgnN s n).2.2.2 ≤ 16
  | 0, _ => by
    have := h 16 (by omega)
    unfold kAt at this
    rw [if_pos rfl] at this
    refine ⟨this, ?_, Nat.zero_le _, Nat.zero_le _⟩
    show (if 0 < s 2 then 16 else 0) ≤ 16
    split <;> omega
  | n + 1, hn => by
    obtain ⟨h1, h2, h3, h4⟩ := bgnN_le h n (by omega)
    have h5 := h n (by omega)
    unfold kAt at h5
    rw [if_neg (by omega)] at h5
    unfold bgnN
    split
    · exact ⟨h5, by simp only; omega, h3, h4⟩
    · split
      · exact ⟨h1, h2, h5, by simp only; omega⟩
      · exact ⟨h1, h2, h3, h4⟩
theorem bgnN_0 {s : mS} {n : Nat} (h : s (6 + n) = 0) : bgnN s (n + 1) = bgnN s n := by show (if _ then _ else _) = _; rw [if_neg (by omega), if_neg (by omega)]
theorem bgnN_1 {s : mS} {n : Nat} (h : 0 < s (6 + n)) (h0 : (bgnN s n).1 = 0) : bgnN s (n + 1) = (s (6 + n), n, (bgnN s n).2.2.1, (bgnN s n).2.2.2) := by show (if _ then _ else _) = _; rw [if_pos ⟨h, h0⟩]
theorem bgnN_2 {s : mS} {n : Nat} (h : 0 < s (6 + n)) (h0 : ¬ (bgnN s n).1 = 0) : bgnN s (n + 1) = ((bgnN s n).1, (bgnN s n).2.1, s (6 + n), n) := by show (if _ then _ else _) = _; rw [if_neg (fun q => h0 q.2), if_pos h]
set_option maxHeartbeats 4000000 in
set_option maxRecDepth 100000 in
theorem k_X6_begins (l : Launch) (G : wG) {M : Nat} {A : Nat → Nat} {ke ty th ap ft bo ot il : Int32} {a : Nat} {f : Nat → Int32} {s : mS} (hf : hd53 f s) (hok : mOk s) : Con0 l G yX6_begins cX6_begins 6 (some .int) 0 [.ref M, .ref a] [(M, ob 5 (mF A ke ty th ap ft bo ot il)), (a, aI G 53 f)] (fun r w => r = some (.int (nI (emN (s 1, (bgnN s 16).2.1, (bgnN s 16).2.2.2)))) ∧ w = [(M, ob 5 (mF A ke ty th ap ft (nI (bgnN s 16).1) (nI (bgnN s 16).2.2.1) il)), (a, aI G 53 f)]) := by
  refine Con.mk (by decide +kernel) (Nat.le_of_ble_eq_true rfl) (fun P C Rr => ?_)
  obtain ⟨o1, o2, o3, hk5, o5, o6⟩ := hok
  have loop : ∀ (m i : Nat) (x : Int32) (b9 o9 x2 x3 : Int32), i + m = 16 → x = nI i → b9 = nI (bgnN s i).1 → x2 = nI (bgnN s i).2.1 → o9 = nI (bgnN s i).2.2.1 → x3 = nI (bgnN s i).2.2.2 → P 0 0 33 [(0, .ref M), (1, .ref a), (2, .int x2), (3, .int x3), (4, .int x)] [] [(M, ob 5 (mF A ke ty th ap ft b9 o9 il)), (a, aI G 53 f)] := by
    intro m
    induction m with
    | zero =>
      intro i x b9 o9 x2 x3 hi hx hb h2 ho h3
      obtain rfl : i = 16 := by omega
      refine st_iload C (dk DX6_begins_0 21 rfl) rfl ?_
      refine st_bipush C (v := 16) (dk DX6_begins_0 22 rfl) (by decide) ?_
      refine st_icmp_ge C (tgt := 93) (dk DX6_begins_0 23 rfl) (by decide) (fun c_37 => ?_) (fun c_37 => ?_)
      · refine st_sipush C (v := 289) (dk DX6_begins_1 10 rfl) (by decide) ?_
        refine st_aload_n C (dk DX6_begins_1 11 rfl) rfl ?_
        refine st_iconst C (v := 1) (dk DX6_begins_1 12 rfl) (by decide) ?_
        refine st_iald C (dk DX6_begins_1 13 rfl) 1 rfl (vp_nI (show (1 : Int32) = nI 1 from rfl) (by decide) (by decide)) ?_
        refine st_imul C (dk DX6_begins_1 14 rfl) ?_
        refine st_bipush C (v := 17) (dk DX6_begins_1 15 rfl) (by decide) ?_
        refine st_iload_n C (dk DX6_begins_1 16 rfl) rfl ?_
        refine st_imul C (dk DX6_begins_1 17 rfl) ?_
        refine st_iadd C (dk DX6_begins_1 18 rfl) ?_
        refine st_iload_n C (dk DX6_begins_1 19 rfl) rfl ?_
        refine st_iadd C (dk DX6_begins_1 20 rfl) ?_
        refine Rr 0 0 _ _ _ _ _ _ (Nat.zero_le _) (Nat.zero_le _) (dk DX6_begins_1 21 rfl) (.inr (.inl ⟨_, rfl, rfl, rfl, rfl⟩)) rfl ?_
        have hle := bgnN_le hk5 16 (by omega)
        refine ⟨rfl, ?_, by rw [hb, ho]; rfl⟩
        rw [hf.at (x := 1) (j := 1) rfl (by decide), h2, h3, show (289 : Int32) = nI 289 from rfl, show (17 : Int32) = nI 17 from rfl, pk_mul, pk_mul, nI_add, nI_add]
        rfl
      · exact absurd ((ge_nI (a := 16) (i := 16) (by decide) (by decide) rfl hx).mpr (Nat.le_refl _)) c_37
    | succ m ih =>
      intro i x b9 o9 x2 x3 hi hx hb h2 ho h3
      have hle := bgnN_le hk5 i (by omega)
      have h5 := hk5 i (by omega)
      unfold kAt at h5
      rw [if_neg (by omega)] at h5
      have hv : f ((6 : Int32) + x).toNatClampNeg = nI (s (6 + i)) := by rw [hx]; exact hf.at (nadd 6 i rfl) (by omega)
      refine st_iload C (dk DX6_begins_0 21 rfl) rfl ?_
      refine st_bipush C (v := 16) (dk DX6_begins_0 22 rfl) (by decide) ?_
      refine st_icmp_ge C (tgt := 93) (dk DX6_begins_0 23 rfl) (by decide) (fun c_37 => ?_) (fun c_37 => ?_)
      · exact absurd ((ge_nI (a := 16) (i := i) (by decide) (by omega) rfl hx).mp c_37) (by omega)
      · refine st_aload_n C (dk DX6_begins_0 24 rfl) rfl ?_
        refine st_bipush C (v := 6) (dk DX6_begins_0 25 rfl) (by decide) ?_
        refine st_iload C (dk DX6_begins_0 26 rfl) rfl ?_
        refine st_iadd C (dk DX6_begins_0 27 rfl) ?_
        refine st_iald C (dk DX6_begins_0 28 rfl) 1 rfl (by rw [hx]; exact vpA (k := 6) rfl (by omega : 6 + i < 53) (by decide)) ?_
        rw [hv]
        refine st_istore C (dk DX6_begins_0 29 rfl) (by decide) rfl ?_
        refine st_iload C (dk DX6_begins_0 30 rfl) rfl ?_
        refine st_if_le C (tgt := 73) (dk DX6_begins_0 31 rfl) (by decide) (fun c_51 => ?_) (fun c_51 => ?_)
        · refine st_iload C (dk DX6_begins_1 1 rfl) rfl ?_
          refine st_if_le C (tgt := 87) (dk DX6_begins_1 2 rfl) (by decide) (fun c_75 => ?_) (fun c_75 => ?_)
          · have h6 : s (6 + i) = 0 := (le0_nI (by omega)).mp c_75
            refine st_iinc C (dk DX6_begins_1 8 rfl) rfl (iadd_ofInt _ (1) (1) (by decide)) (by decide) rfl ?_
            refine st_goto C (tgt := 33) (dk DX6_begins_1 9 rfl) (by decide) ?_
            refine st_lv C [0, 1, 2, 3, 4] rfl ?_
            exact ih (i + 1) _ _ _ _ _ (by omega) (up_nI hx) (by rw [bgnN_0 h6]; exact hb) (by rw [bgnN_0 h6]; exact h2) (by rw [bgnN_0 h6]; exact ho) (by rw [bgnN_0 h6]; exact h3)
          · exact absurd c_51 c_75
        · refine st_aload_n C (dk DX6_begins_0 32 rfl) rfl ?_
          refine st_get C fl_RX6_81 (dk DX6_begins_0 33 rfl) 0 rfl rfl ?_
          refine st_if_ne C (tgt := 73) (dk DX6_begins_0 34 rfl) (by decide) (fun c_58 => ?_) (fun c_58 => ?_)
          · refine st_iload C (dk DX6_begins_1 1 rfl) rfl ?_
            refine st_if_le C (tgt := 87) (dk DX6_begins_1 2 rfl) (by decide) (fun c_75 => ?_) (fun c_75 => ?_)
            · exact absurd c_75 c_51
            · have h6 : 0 < s (6 + i) := (gt0_nI (by omega)).mp c_75
              have hb0 : ¬ (bgnN s i).1 = 0 := fun h => c_58 (by rw [hb, h]; rfl)
              refine st_aload_n C (dk DX6_begins_1 3 rfl) rfl ?_
              refine st_iload C (dk DX6_begins_1 4 rfl) rfl ?_
              refine st_put C fl_RX6_84 fc_5 fw_5_16 (dk DX6_begins_1 5 rfl) 0 rfl rfl rfl (Nat.le_of_ble_eq_true rfl) ?_
              refine st_iload C (dk DX6_begins_1 6 rfl) rfl ?_
              refine st_istore_n C (dk DX6_begins_1 7 rfl) (by decide) rfl ?_
              refine st_iinc C (dk DX6_begins_1 8 rfl) rfl (iadd_ofInt _ (1) (1) (by decide)) (by decide) rfl ?_
              refine st_goto C (tgt := 33) (dk DX6_begins_1 9 rfl) (by decide) ?_
              refine st_lv C [0, 1, 2, 3, 4] rfl ?_
              exact ih (i + 1) _ _ _ _ _ (by omega) (up_nI hx) (by rw [bgnN_2 h6 hb0]; exact hb) (by rw [bgnN_2 h6 hb0]; exact h2) (by rw [bgnN_2 h6 hb0]) (by rw [bgnN_2 h6 hb0]; exact hx)
          · have h6 : 0 < s (6 + i) := (gt0_nI (by omega)).mp c_51
            have hb0 : (bgnN s i).1 = 0 := by rw [hb] at c_58; exact (eq_nI (a := (bgnN s i).1) (i := 0) (by omega) (by decide) rfl rfl).mp c_58
            refine st_aload_n C (dk DX6_begins_0 35 rfl) rfl ?_
            refine st_iload C (dk DX6_begins_0 36 rfl) rfl ?_
            refine st_put C fl_RX6_81 fc_5 fw_5_15 (dk DX6_begins_0 37 rfl) 0 rfl rfl rfl (Nat.le_of_ble_eq_true rfl) ?_
            refine st_iload C (dk DX6_begins_0 38 rfl) rfl ?_
            refine st_istore_n C (dk DX6_begins_0 39 rfl) (by decide) rfl ?_
            refine st_goto C (tgt := 87) (dk DX6_begins_1 0 rfl) (by decide) ?_
            refine st_iinc C (dk DX6_begins_1 8 rfl) rfl (iadd_ofInt _ (1) (1) (by decide)) (by decide) rfl ?_
            refine st_goto C (tgt := 33) (dk DX6_begins_1 9 rfl) (by decide) ?_
            refine st_lv C [0, 1, 2, 3, 4] rfl ?_
            exact ih (i + 1) _ _ _ _ _ (by omega) (up_nI hx) (by rw [bgnN_1 h6 hb0]) (by rw [bgnN_1 h6 hb0]; exact hx) (by rw [bgnN_1 h6 hb0]; exact ho) (by rw [bgnN_1 h6 hb0]; exact h3)
  refine st_iconst C (v := 0) (dk DX6_begins_0 0 rfl) (by decide) ?_
  refine st_istore_n C (dk DX6_begins_0 1 rfl) (by decide) rfl ?_
  refine st_iconst C (v := 0) (dk DX6_begins_0 2 rfl) (by decide) ?_
  refine st_istore_n C (dk DX6_begins_0 3 rfl) (by decide) rfl ?_
  refine st_aload_n C (dk DX6_begins_0 4 rfl) rfl ?_
  refine st_aload_n C (dk DX6_begins_0 5 rfl) rfl ?_
  refine st_iconst C (v := 2) (dk DX6_begins_0 6 rfl) (by decide) ?_
  refine st_iald C (dk DX6_begins_0 7 rfl) 1 rfl (vp_nI (show (2 : Int32) = nI 2 from rfl) (by decide) (by decide)) ?_
  rw [show f (Int32.toNatClampNeg 2) = nI (s 2) from hf.at (j := 2) rfl (by decide)]
  refine st_put C fl_RX6_81 fc_5 fw_5_15 (dk DX6_begins_0 8 rfl) 0 rfl rfl rfl (Nat.le_of_ble_eq_true rfl) ?_
  refine st_aload_n C (dk DX6_begins_0 9 rfl) rfl ?_
  refine st_iconst C (v := 0) (dk DX6_begins_0 10 rfl) (by decide) ?_
  refine st_put C fl_RX6_84 fc_5 fw_5_16 (dk DX6_begins_0 11 rfl) 0 rfl rfl rfl (Nat.le_of_ble_eq_true rfl) ?_
  refine st_aload_n C (dk DX6_begins_0 12 rfl) rfl ?_
  refine st_get C fl_RX6_81 (dk DX6_begins_0 13 rfl) 0 rfl rfl ?_
  refine st_if_le C (tgt := 28) (dk DX6_begins_0 14 rfl) (by decide) (fun c_20 => ?_) (fun c_20 => ?_)
  · refine st_iconst C (v := 0) (dk DX6_begins_0 17 rfl) (by decide) ?_
    refine st_istore_n C (dk DX6_begins_0 18 rfl) (by decide) rfl ?_
    refine st_iconst C (v := 0) (dk DX6_begins_0 19 rfl) (by decide) ?_
    refine st_istore C (dk DX6_begins_0 20 rfl) (by decide) rfl ?_
    have h5 := hk5 16 (by omega)
    unfold kAt at h5
    rw [if_pos rfl] at h5
    exact loop 16 0 _ _ _ _ _ (by omega) rfl rfl (by show 0 = nI (if 0 < s 2 then 16 else 0); rw [if_neg (by have := (le0_nI (by omega)).mp c_20; omega)]; rfl) rfl rfl
  · refine st_bipush C (v := 16) (dk DX6_begins_0 15 rfl) (by decide) ?_
    refine st_goto C (tgt := 29) (dk DX6_begins_0 16 rfl) (by decide) ?_
    refine st_istore_n C (dk DX6_begins_0 18 rfl) (by decide) rfl ?_
    refine st_iconst C (v := 0) (dk DX6_begins_0 19 rfl) (by decide) ?_
    refine st_istore C (dk DX6_begins_0 20 rfl) (by decide) rfl ?_
    have h5 := hk5 16 (by omega)
    unfold kAt at h5
    rw [if_pos rfl] at h5
    exact loop 16 0 _ _ _ _ _ (by omega) rfl rfl (by show 16 = nI (if 0 < s 2 then 16 else 0); rw [if_pos ((gt0_nI (by omega)).mp c_20)]; rfl) rfl rfl
