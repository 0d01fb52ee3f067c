/-! the reference: copies, saves, undo, changes -/
set_option maxHeartbeats 4000000 in
set_option maxRecDepth 100000 in
theorem k_X6_copies (l : Launch) (G : wG) {a b n1 n2 fa ta : Nat} {f h0 : Nat → Int32} {xa ya : Int32} (hxa : xa = nI fa) (hya : ya = nI ta) (h1 : fa + 53 ≤ n1) (h2 : ta + 53 ≤ n2) (hn1 : n1 < 2 ^ 31) (hn2 : n2 < 2 ^ 31) : Con0 l G yX6_copies cX6_copies 5 none 0 [.ref a, .int xa, .ref b, .int ya] [(a, aI G n1 f), (b, aI G n2 h0)] (fun r w => r = none ∧ ∃ h3 : Nat → Int32, (∀ j, j < 53 → h3 (ta + j) = f (fa + j)) ∧ (∀ j, (j < ta ∨ ta + 53 ≤ j) → h3 j = h0 j) ∧ w = [(a, aI G n1 f), (b, aI G n2 h3)]) := by
  refine Con.mk (by decide +kernel) (Nat.le_of_ble_eq_true rfl) (fun P C Rr => ?_)
  subst hxa
  subst hya
  have loop : ∀ (m i : Nat) (x : Int32) (h : Nat → Int32), i + m = 53 → x = nI i → (∀ j, j < i → h (ta + j) = f (fa + j)) → (∀ j, (j < ta ∨ ta + i ≤ j) → h j = h0 j) → P 0 0 3 [(0, .ref a), (1, .int (nI fa)), (2, .ref b), (3, .int (nI ta)), (4, .int x)] [] [(a, aI G n1 f), (b, aI G n2 h)] := by
    intro m
    induction m with
    | zero =>
      intro i x h hi hx hA hB
      obtain rfl : i = 53 := by omega
      refine st_iload C (dk DX6_copies_0 2 rfl) rfl ?_
      refine st_bipush C (v := 53) (dk DX6_copies_0 3 rfl) (by decide) ?_
      refine st_icmp_ge C (tgt := 28) (dk DX6_copies_0 4 rfl) (by decide) (fun c_7 => ?_) (fun c_7 => ?_)
      · exact Rr 0 0 _ _ _ _ _ _ (Nat.zero_le _) (Nat.zero_le _) (dk DX6_copies_0 17 rfl) (.inl ⟨rfl, rfl, rfl, rfl⟩) rfl ⟨rfl, ⟨rfl, h, hA, hB, rfl⟩⟩
      · exact absurd ((ge_nI (a := 53) (i := 53) (by decide) (by decide) rfl hx).mpr (Nat.le_refl _)) c_7
    | succ m ih =>
      intro i x h hi hx hA hB
      refine st_iload C (dk DX6_copies_0 2 rfl) rfl ?_
      refine st_bipush C (v := 53) (dk DX6_copies_0 3 rfl) (by decide) ?_
      refine st_icmp_ge C (tgt := 28) (dk DX6_copies_0 4 rfl) (by decide) (fun c_7 => ?_) (fun c_7 => ?_)
      · exact absurd ((ge_nI (a := 53) (i := i) (by decide) (by omega) rfl hx).mp c_7) (by omega)
      · refine st_aload_n C (dk DX6_copies_0 5 rfl) rfl ?_
        refine st_iload_n C (dk DX6_copies_0 6 rfl) rfl ?_
        refine st_iload C (dk DX6_copies_0 7 rfl) rfl ?_
        refine st_iadd C (dk DX6_copies_0 8 rfl) ?_
        refine st_aload_n C (dk DX6_copies_0 9 rfl) rfl ?_
        refine st_iload_n C (dk DX6_copies_0 10 rfl) rfl ?_
        refine st_iload C (dk DX6_copies_0 11 rfl) rfl ?_
        refine st_iadd C (dk DX6_copies_0 12 rfl) ?_
        refine st_iald C (dk DX6_copies_0 13 rfl) 0 rfl (by rw [hx]; exact vpA (k := fa) rfl (by omega) hn1) ?_
        refine st_iast C (dk DX6_copies_0 14 rfl) 1 rfl (by rw [hx]; exact vpA (k := ta) rfl (by omega) hn2) ?_
        refine st_iinc C (dk DX6_copies_0 15 rfl) rfl (iadd_ofInt _ (1) (1) (by decide)) (by decide) rfl ?_
        refine st_goto C (tgt := 3) (dk DX6_copies_0 16 rfl) (by decide) ?_
        exact ih (i + 1) _ _ (by omega) (up_nI hx) (by
          intro j hj
          rw [show (nI ta + x).toNatClampNeg = ta + i by rw [hx, nI_add, nI_clamp (by omega)], show (nI fa + x).toNatClampNeg = fa + i by rw [hx, nI_add, nI_clamp (by omega)]]
          by_cases e : j = i
          · subst e; exact pk_us
          · rw [pk_un (by omega)]; exact hA j (by omega)) (by
          intro j hj
          rw [show (nI ta + x).toNatClampNeg = ta + i by rw [hx, nI_add, nI_clamp (by omega)], pk_un (by omega)]
          exact hB j (by omega))
  refine st_iconst C (v := 0) (dk DX6_copies_0 0 rfl) (by decide) ?_
  refine st_istore C (dk DX6_copies_0 1 rfl) (by decide) rfl ?_
  exact loop 53 0 _ _ (by omega) rfl (fun j hj => absurd hj (Nat.not_lt_zero j)) (fun j _ => rfl)
set_option maxHeartbeats 4000000 in
set_option maxRecDepth 100000 in
theorem k_X6_changes (l : Launch) (G : wG) {M : Nat} {A : Nat → Nat} {ke ty th ap ft bo ot il : Int32} {f : Nat → Int32} {x v : Int32} {k : Nat} (hx : x = nI k) (hk : k < 53) : Con0 l G yX6_changes cX6_changes 4 (some .int) 0 [.ref M, .int x, .int v] [(M, ob 5 (mF A ke ty th ap ft bo ot il)), (A 0, aI G 53 f)] (fun r w => r = some (.int (f k)) ∧ w = [(M, ob 5 (mF A ke ty th ap ft bo ot il)), (A 0, aI G 53 (upd f k v))]) := by
  refine Con.mk (by decide +kernel) (Nat.le_of_ble_eq_true rfl) (fun P C Rr => ?_)
  have e : x.toNatClampNeg = k := cl_nI hx (by omega)
  refine st_aload_n C (dk DX6_changes_0 0 rfl) rfl ?_
  refine st_get C fl_RX6_7 (dk DX6_changes_0 1 rfl) 0 rfl rfl ?_
  refine st_iload_n C (dk DX6_changes_0 2 rfl) rfl ?_
  refine st_iald C (dk DX6_changes_0 3 rfl) 1 rfl (vp_nI hx hk (by decide)) ?_
  rw [e]
  refine st_istore_n C (dk DX6_changes_0 4 rfl) (by decide) rfl ?_
  refine st_aload_n C (dk DX6_changes_0 5 rfl) rfl ?_
  refine st_get C fl_RX6_7 (dk DX6_changes_0 6 rfl) 0 rfl rfl ?_
  refine st_iload_n C (dk DX6_changes_0 7 rfl) rfl ?_
  refine st_iload_n C (dk DX6_changes_0 8 rfl) rfl ?_
  refine st_iast C (dk DX6_changes_0 9 rfl) 1 rfl (vp_nI hx hk (by decide)) ?_
  rw [e]
  refine st_iload_n C (dk DX6_changes_0 10 rfl) rfl ?_
  exact Rr 0 0 _ _ _ _ _ _ (Nat.zero_le _) (Nat.zero_le _) (dk DX6_changes_0 11 rfl) (.inr (.inl ⟨_, rfl, rfl, rfl, rfl⟩)) rfl ⟨rfl, ⟨rfl, rfl⟩⟩
set_option maxHeartbeats 4000000 in
set_option maxRecDepth 100000 in
theorem k_X6_saves (l : Launch) (G : wG) {M : Nat} {A : Nat → Nat} {ke ty th ap ft bo ot il : Int32} {s : mS} {f0 f20 : Nat → Int32} {k : Nat} {p : Nat → mS} (hf : hd53 f0 s) (hke : ke = nI k) (hk : k ≤ 6) (hp : pastR f20 k p) : Con0 l G yX6_saves cX6_saves 2 none 1 [.ref M] [(M, ob 5 (mF A ke ty th ap ft bo ot il)), (A 2, aI G 318 f20), (A 0, aI G 53 f0)] (fun r w => r = none ∧ ∃ f29 : Nat → Int32, pastR f29 (svK k) (svP s k p) ∧ w = [(M, ob 5 (mF A (nI (svK k)) ty th ap ft bo ot 0)), (A 2, aI G 318 f29), (A 0, aI G 53 f0)]) := by
  refine Con.mk (by decide +kernel) (Nat.le_of_ble_eq_true rfl) (fun P C Rr => ?_)
  have J54 : ∀ (k0 : Nat) (p0 : Nat → mS) (f2 : Nat → Int32) (ke9 : Int32), ke9 = nI k0 → k0 ≤ 5 → svK k = k0 + 1 → pastR f2 k0 p0 → (∀ i, i < k0 + 1 → (fun i => if i = k0 then s else p0 i) i = svP s k p i) → ∀ (lv : List (Nat × Value)), lkL lv 0 = some (.ref M) → P 0 0 54 lv [] [(M, ob 5 (mF A ke9 ty th ap ft bo ot 0)), (A 2, aI G 318 f2), (A 0, aI G 53 f0)] := by
    intro k0 p0 f2 ke9 hke hk0 hsk hp0 hsv lv hlv
    refine st_aload_n C (dk DX6_saves_0 30 rfl) hlv ?_
    refine st_get C fl_RX6_7 (dk DX6_saves_0 31 rfl) 0 rfl rfl ?_
    refine st_iconst C (v := 0) (dk DX6_saves_0 32 rfl) (by decide) ?_
    refine st_aload_n C (dk DX6_saves_0 33 rfl) hlv ?_
    refine st_get C fl_RX6_16 (dk DX6_saves_0 34 rfl) 0 rfl rfl ?_
    refine st_bipush C (v := 53) (dk DX6_saves_0 35 rfl) (by decide) ?_
    refine st_aload_n C (dk DX6_saves_0 36 rfl) hlv ?_
    refine st_get C fl_RX6_52 (dk DX6_saves_0 37 rfl) 0 rfl rfl ?_
    refine st_imul C (dk DX6_saves_0 38 rfl) ?_
    refine st_cS C (k_X6_copies l G (fa := 0) (ta := 53 * k0) rfl (by rw [hke, show (53 : Int32) = nI 53 from rfl, pk_mul]) (by decide) (by omega) (by decide) (by decide)) mf_X6_copies ms_X6_copies ml_RX6_55 (dk DX6_saves_0 39 rfl) [2, 1] rfl rfl rfl rfl (Nat.le_of_ble_eq_true rfl) ⟨Nat.le_of_ble_eq_true rfl, Nat.le_of_ble_eq_true rfl⟩ ⟨Nat.zero_le _, Nat.zero_le _⟩ (fun r9 w9 hq9 => ?_)
    obtain ⟨rfl, h70, hA70, hB70, rfl⟩ := hq9
    refine st_aload_n C (dk DX6_saves_1 0 rfl) hlv ?_
    refine st_dup C (dk DX6_saves_1 1 rfl) rfl ?_
    refine st_get C fl_RX6_52 (dk DX6_saves_1 2 rfl) 0 rfl rfl ?_
    refine st_iconst C (v := 1) (dk DX6_saves_1 3 rfl) (by decide) ?_
    refine st_iadd C (dk DX6_saves_1 4 rfl) ?_
    refine st_put C fl_RX6_52 fc_5 fw_5_3 (dk DX6_saves_1 5 rfl) 0 rfl rfl rfl (Nat.le_of_ble_eq_true rfl) ?_
    refine Rr 0 0 _ _ _ _ _ _ (Nat.zero_le _) (Nat.zero_le _) (dk DX6_saves_1 6 rfl) (.inl ⟨rfl, rfl, rfl, rfl⟩) rfl ?_
    refine ⟨rfl, rfl, h70, ?_, by rw [hke, nI_1, ← hsk]; rfl⟩
    rw [hsk]
    exact (pastR.save hp0 hf hA70 hB70).congr hsv
  have loop : ∀ (m i : Nat) (x : Int32) (f2 : Nat → Int32), i + m = 265 → x = nI i → k = 6 → (∀ j, j < i → f2 j = f20 (j + 53)) → (∀ j, i ≤ j → f2 j = f20 j) → P 0 0 16 [(0, .ref M), (1, .int x)] [] [(M, ob 5 (mF A ke ty th ap ft bo ot 0)), (A 2, aI G 318 f2), (A 0, aI G 53 f0)] := by
    intro m
    induction m with
    | zero =>
      intro i x f2 hi hx h6 hA hB
      obtain rfl : i = 265 := by omega
      refine st_iload_n C (dk DX6_saves_0 9 rfl) rfl ?_
      refine st_sipush C (v := 265) (dk DX6_saves_0 10 rfl) (by decide) ?_
      refine st_icmp_ge C (tgt := 44) (dk DX6_saves_0 11 rfl) (by decide) (fun c_20 => ?_) (fun c_20 => ?_)
      · refine st_aload_n C (dk DX6_saves_0 24 rfl) rfl ?_
        refine st_dup C (dk DX6_saves_0 25 rfl) rfl ?_
        refine st_get C fl_RX6_52 (dk DX6_saves_0 26 rfl) 0 rfl rfl ?_
        refine st_iconst C (v := 1) (dk DX6_saves_0 27 rfl) (by decide) ?_
        refine st_isub C (dk DX6_saves_0 28 rfl) ?_
        refine st_put C fl_RX6_52 fc_5 fw_5_3 (dk DX6_saves_0 29 rfl) 0 rfl rfl rfl (Nat.le_of_ble_eq_true rfl) ?_
        exact J54 5 (fun i => p (i + 1)) f2 _ (by rw [hke, h6]; rfl) (by omega) (by unfold svK; rw [if_pos h6]) (fun i hi j hj => by rw [hA _ (by omega), show 53 * i + j + 53 = 53 * (i + 1) + j by omega]; exact hp (i + 1) (by omega) j hj) (by rw [h6]; exact svP_6) _ rfl
      · exact absurd ((ge_nI (a := 265) (i := 265) (by decide) (by decide) rfl hx).mpr (Nat.le_refl _)) c_20
    | succ m ih =>
      intro i x f2 hi hx h6 hA hB
      refine st_iload_n C (dk DX6_saves_0 9 rfl) rfl ?_
      refine st_sipush C (v := 265) (dk DX6_saves_0 10 rfl) (by decide) ?_
      refine st_icmp_ge C (tgt := 44) (dk DX6_saves_0 11 rfl) (by decide) (fun c_20 => ?_) (fun c_20 => ?_)
      · exact absurd ((ge_nI (a := 265) (i := i) (by decide) (by omega) rfl hx).mp c_20) (by omega)
      · refine st_aload_n C (dk DX6_saves_0 12 rfl) rfl ?_
        refine st_get C fl_RX6_16 (dk DX6_saves_0 13 rfl) 0 rfl rfl ?_
        refine st_iload_n C (dk DX6_saves_0 14 rfl) rfl ?_
        refine st_aload_n C (dk DX6_saves_0 15 rfl) rfl ?_
        refine st_get C fl_RX6_16 (dk DX6_saves_0 16 rfl) 0 rfl rfl ?_
        refine st_iload_n C (dk DX6_saves_0 17 rfl) rfl ?_
        refine st_bipush C (v := 53) (dk DX6_saves_0 18 rfl) (by decide) ?_
        refine st_iadd C (dk DX6_saves_0 19 rfl) ?_
        refine st_iald C (dk DX6_saves_0 20 rfl) 1 rfl (by rw [hx, show (53 : Int32) = nI 53 from rfl, nI_add]; exact vp_in_nI (by omega) (by decide)) ?_
        refine st_iast C (dk DX6_saves_0 21 rfl) 1 rfl (vp_nI hx (by omega) (by decide)) ?_
        refine st_iinc C (dk DX6_saves_0 22 rfl) rfl (iadd_ofInt _ (1) (1) (by decide)) (by decide) rfl ?_
        refine st_goto C (tgt := 16) (dk DX6_saves_0 23 rfl) (by decide) ?_
        exact ih (i + 1) _ _ (by omega) (up_nI hx) h6 (by
          intro j hj
          rw [cl_nI hx (by omega), show (x + 53).toNatClampNeg = i + 53 by rw [hx, show (53 : Int32) = nI 53 from rfl, nI_add, nI_clamp (by omega)]]
          by_cases e : j = i
          · subst e; rw [pk_us, hB _ (by omega)]
          · rw [pk_un e]; exact hA j (by omega)) (by
          intro j hj
          rw [cl_nI hx (by omega), pk_un (by omega)]
          exact hB j (by omega))
  refine st_aload_n C (dk DX6_saves_0 0 rfl) rfl ?_
  refine st_iconst C (v := 0) (dk DX6_saves_0 1 rfl) (by decide) ?_
  refine st_put C fl_RX6_48 fc_5 fw_5_17 (dk DX6_saves_0 2 rfl) 0 rfl rfl rfl (Nat.le_of_ble_eq_true rfl) ?_
  refine st_aload_n C (dk DX6_saves_0 3 rfl) rfl ?_
  refine st_get C fl_RX6_52 (dk DX6_saves_0 4 rfl) 0 rfl rfl ?_
  refine st_bipush C (v := 6) (dk DX6_saves_0 5 rfl) (by decide) ?_
  refine st_icmp_ne C (tgt := 54) (dk DX6_saves_0 6 rfl) (by decide) (fun c_11 => ?_) (fun c_11 => ?_)
  · have hk6 : ¬ k = 6 := fun h => c_11 (by rw [hke, h]; rfl)
    exact J54 k p f20 _ hke (by omega) (by unfold svK; rw [if_neg hk6]) hp (svP_lt (by omega)) _ rfl
  · have hk6 : k = 6 := (eq_nI (a := k) (i := 6) (by omega) (by decide) hke rfl).mp c_11
    refine st_iconst C (v := 0) (dk DX6_saves_0 7 rfl) (by decide) ?_
    refine st_istore_n C (dk DX6_saves_0 8 rfl) (by decide) rfl ?_
    exact loop 265 0 _ _ (by omega) rfl hk6 (fun j hj => absurd hj (Nat.not_lt_zero j)) (fun j _ => rfl)
set_option maxHeartbeats 4000000 in
set_option maxRecDepth 100000 in
theorem k_X6_undo (l : Launch) (G : wG) {M : Nat} {A : Nat → Nat} {ke ty th ap ft bo ot il : Int32} {s : mS} {f0 f20 : Nat → Int32} {k : Nat} {p : Nat → mS} (hke : ke = nI k) (hk : k ≤ 6) (hp : pastR f20 k p) : Con0 l G yX6_undo cX6_undo 1 (some .int) 1 [.ref M] [(M, ob 5 (mF A ke ty th ap ft bo ot il)), (A 2, aI G 318 f20), (A 0, aI G 53 f0)] (fun r w => (k = 0 ∧ r = some (.int 0) ∧ w = [(M, ob 5 (mF A ke ty 1 ap ft bo ot il)), (A 2, aI G 318 f20), (A 0, aI G 53 f0)]) ∨ (0 < k ∧ r = some (.int (nI (k - 1))) ∧ ∃ f09 : Nat → Int32, hd53 f09 (p (k - 1)) ∧ w = [(M, ob 5 (mF A (nI (k - 1)) ty 0 ap ft bo ot 0)), (A 2, aI G 318 f20), (A 0, aI G 53 f09)])) := by
  refine Con.mk (by decide +kernel) (Nat.le_of_ble_eq_true rfl) (fun P C Rr => ?_)
  refine st_aload_n C (dk DX6_undo_0 0 rfl) rfl ?_
  refine st_iconst C (v := 0) (dk DX6_undo_0 1 rfl) (by decide) ?_
  refine st_put C fl_RX6_40 fc_5 fw_5_6 (dk DX6_undo_0 2 rfl) 0 rfl rfl rfl (Nat.le_of_ble_eq_true rfl) ?_
  refine st_aload_n C (dk DX6_undo_0 3 rfl) rfl ?_
  refine st_get C fl_RX6_52 (dk DX6_undo_0 4 rfl) 0 rfl rfl ?_
  refine st_if_ne C (tgt := 18) (dk DX6_undo_0 5 rfl) (by decide) (fun c_9 => ?_) (fun c_9 => ?_)
  · have hk0 : 0 < k := by
      have : ¬ k = 0 := fun h => c_9 (by rw [hke, h]; rfl)
      omega
    have ek : ke - 1 = nI (k - 1) := by rw [hke]; exact pk_sub (b := 1) (by omega)
    refine st_aload_n C (dk DX6_undo_0 10 rfl) rfl ?_
    refine st_iconst C (v := 0) (dk DX6_undo_0 11 rfl) (by decide) ?_
    refine st_put C fl_RX6_48 fc_5 fw_5_17 (dk DX6_undo_0 12 rfl) 0 rfl rfl rfl (Nat.le_of_ble_eq_true rfl) ?_
    refine st_aload_n C (dk DX6_undo_0 13 rfl) rfl ?_
    refine st_dup C (dk DX6_undo_0 14 rfl) rfl ?_
    refine st_get C fl_RX6_52 (dk DX6_undo_0 15 rfl) 0 rfl rfl ?_
    refine st_iconst C (v := 1) (dk DX6_undo_0 16 rfl) (by decide) ?_
    refine st_isub C (dk DX6_undo_0 17 rfl) ?_
    rw [ek]
    refine st_put C fl_RX6_52 fc_5 fw_5_3 (dk DX6_undo_0 18 rfl) 0 rfl rfl rfl (Nat.le_of_ble_eq_true rfl) ?_
    refine st_aload_n C (dk DX6_undo_0 19 rfl) rfl ?_
    refine st_get C fl_RX6_16 (dk DX6_undo_0 20 rfl) 0 rfl rfl ?_
    refine st_bipush C (v := 53) (dk DX6_undo_0 21 rfl) (by decide) ?_
    refine st_aload_n C (dk DX6_undo_0 22 rfl) rfl ?_
    refine st_get C fl_RX6_52 (dk DX6_undo_0 23 rfl) 0 rfl rfl ?_
    refine st_imul C (dk DX6_undo_0 24 rfl) ?_
    refine st_aload_n C (dk DX6_undo_0 25 rfl) rfl ?_
    refine st_get C fl_RX6_7 (dk DX6_undo_0 26 rfl) 0 rfl rfl ?_
    refine st_iconst C (v := 0) (dk DX6_undo_0 27 rfl) (by decide) ?_
    refine st_cS C (k_X6_copies l G (fa := 53 * (k - 1)) (ta := 0) (by rw [show (53 : Int32) = nI 53 from rfl, pk_mul]) rfl (by omega) (by decide) (by decide) (by decide)) mf_X6_copies ms_X6_copies ml_RX6_55 (dk DX6_undo_0 28 rfl) [1, 2] rfl rfl rfl rfl (Nat.le_of_ble_eq_true rfl) ⟨Nat.le_of_ble_eq_true rfl, Nat.le_of_ble_eq_true rfl⟩ ⟨Nat.zero_le _, Nat.zero_le _⟩ (fun r9 w9 hq9 => ?_)
    obtain ⟨rfl, h49, hA49, hB49, rfl⟩ := hq9
    refine st_aload_n C (dk DX6_undo_0 29 rfl) rfl ?_
    refine st_get C fl_RX6_52 (dk DX6_undo_0 30 rfl) 0 rfl rfl ?_
    exact Rr 0 0 _ _ _ _ _ _ (Nat.zero_le _) (Nat.zero_le _) (dk DX6_undo_0 31 rfl) (.inr (.inl ⟨_, rfl, rfl, rfl, rfl⟩)) rfl ⟨rfl, Or.inr ⟨hk0, rfl, h49, fun j hj => by have h9 := hA49 j hj; rw [Nat.zero_add] at h9; rw [h9]; exact hp (k - 1) (by omega) j hj, rfl⟩⟩
  · refine st_aload_n C (dk DX6_undo_0 6 rfl) rfl ?_
    refine st_iconst C (v := 1) (dk DX6_undo_0 7 rfl) (by decide) ?_
    refine st_cV C (k_X6_fails l G) mf_X6_fails mi_X6_fails ml_RX6_59 (dk DX6_undo_0 8 rfl) [0] rfl rfl rfl rfl (Nat.le_of_ble_eq_true rfl) rfl rfl ⟨Nat.le_of_ble_eq_true rfl, Nat.le_of_ble_eq_true rfl⟩ ⟨Nat.zero_le _, Nat.zero_le _⟩ (fun r9 w9 hq9 => ?_)
    obtain ⟨rfl, rfl⟩ := hq9
    exact Rr 0 0 _ _ _ _ _ _ (Nat.zero_le _) (Nat.zero_le _) (dk DX6_undo_0 9 rfl) (.inr (.inl ⟨_, rfl, rfl, rfl, rfl⟩)) rfl ⟨rfl, Or.inl ⟨(eq_nI (a := k) (i := 0) (by omega) (by decide) hke rfl).mp c_9, rfl, rfl⟩⟩
