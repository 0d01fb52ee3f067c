/-! the reference: its static methods -/
set_option maxHeartbeats 4000000 in
set_option maxRecDepth 100000 in
theorem k_X6_in (l : Launch) (G : wG) {v lo hi : Int32} : Con0 l G yX6_in cX6_in 3 (some .boolean) 0 [.int v, .int lo, .int hi] [] (fun r w => r = some (.int (rInR v lo hi)) ∧ w = []) := by
  refine Con.mk (by decide +kernel) (Nat.le_of_ble_eq_true rfl) (fun P C Rr => ?_)
  refine st_iload_n C (dk DX6_in_0 0 rfl) rfl ?_
  refine st_iload_n C (dk DX6_in_0 1 rfl) rfl ?_
  refine st_icmp_lt C (tgt := 14) (dk DX6_in_0 2 rfl) (by decide) (fun c_2 => ?_) (fun c_2 => ?_)
  · refine st_iconst C (v := 0) (dk DX6_in_0 8 rfl) (by decide) ?_
    exact Rr 0 0 _ _ _ _ _ _ (Nat.zero_le _) (Nat.zero_le _) (dk DX6_in_0 9 rfl) (.inr (.inr (.inl ⟨_, rfl, (by first | exact Or.inl rfl | exact Or.inr rfl | assumption), rfl, rfl, rfl⟩))) rfl ⟨rfl, ⟨by first | (simp [c_2, rInR]; done) | (simp_all [rInR]; done), rfl⟩⟩
  · refine st_iload_n C (dk DX6_in_0 3 rfl) rfl ?_
    refine st_iload_n C (dk DX6_in_0 4 rfl) rfl ?_
    refine st_icmp_gt C (tgt := 14) (dk DX6_in_0 5 rfl) (by decide) (fun c_7 => ?_) (fun c_7 => ?_)
    · refine st_iconst C (v := 0) (dk DX6_in_0 8 rfl) (by decide) ?_
      exact Rr 0 0 _ _ _ _ _ _ (Nat.zero_le _) (Nat.zero_le _) (dk DX6_in_0 9 rfl) (.inr (.inr (.inl ⟨_, rfl, (by first | exact Or.inl rfl | exact Or.inr rfl | assumption), rfl, rfl, rfl⟩))) rfl ⟨rfl, ⟨by first | (simp [c_2, c_7, rInR]; done) | (simp_all [rInR]; done), rfl⟩⟩
    · refine st_iconst C (v := 1) (dk DX6_in_0 6 rfl) (by decide) ?_
      refine st_goto C (tgt := 15) (dk DX6_in_0 7 rfl) (by decide) ?_
      exact Rr 0 0 _ _ _ _ _ _ (Nat.zero_le _) (Nat.zero_le _) (dk DX6_in_0 9 rfl) (.inr (.inr (.inl ⟨_, rfl, (by first | exact Or.inl rfl | exact Or.inr rfl | assumption), rfl, rfl, rfl⟩))) rfl ⟨rfl, ⟨by first | (simp [c_2, c_7, rInR]; done) | (simp_all [rInR]; done), rfl⟩⟩
set_option maxHeartbeats 4000000 in
set_option maxRecDepth 100000 in
theorem k_X6_isCell (l : Launch) (G : wG) {v : Int32} : Con0 l G yX6_isCell cX6_isCell 1 (some .boolean) 1 [.int v] [] (fun r w => r = some (.int (rInR v 0 15)) ∧ w = []) := by
  refine Con.mk (by decide +kernel) (Nat.le_of_ble_eq_true rfl) (fun P C Rr => ?_)
  refine st_iload_n C (dk DX6_isCell_0 0 rfl) rfl ?_
  refine st_iconst C (v := 0) (dk DX6_isCell_0 1 rfl) (by decide) ?_
  refine st_bipush C (v := 15) (dk DX6_isCell_0 2 rfl) (by decide) ?_
  refine st_cS C (k_X6_in l G) mf_X6_in ms_X6_in ml_RX6_44 (dk DX6_isCell_0 3 rfl) [] rfl rfl rfl rfl (Nat.le_of_ble_eq_true rfl) ⟨Nat.le_of_ble_eq_true rfl, Nat.le_of_ble_eq_true rfl⟩ ⟨Nat.zero_le _, Nat.zero_le _⟩ (fun r9 w9 hq9 => ?_)
  obtain ⟨rfl, rfl⟩ := hq9
  exact Rr 0 0 _ _ _ _ _ _ (Nat.zero_le _) (Nat.zero_le _) (dk DX6_isCell_0 4 rfl) (.inr (.inr (.inl ⟨_, rfl, (by first | exact Or.inl rfl | exact Or.inr rfl | exact rInR_01 _ _ _), rfl, rfl, rfl⟩))) rfl ⟨rfl, ⟨rfl, rfl⟩⟩
set_option maxHeartbeats 4000000 in
set_option maxRecDepth 100000 in
theorem k_X6_above (l : Launch) (G : wG) {a : Nat} {f : Nat → Int32} {s : mS} {x : Int32} {c : Nat} (hf : hd53 f s) (hL : 2 ≤ s 0) (hL2 : s 0 ≤ 8) (hla : ∀ j, j < 16 → s (37 + j) ≤ 1) (hx : x = nI c) (hc : c < 16) : Con0 l G yX6_above cX6_above 3 (some .int) 2 [.ref a, .int x] [(a, aI G 53 f)] (fun r w => r = some (.int (opI (upN s c))) ∧ w = [(a, aI G 53 f)]) := by
  refine Con.mk (by decide +kernel) (Nat.le_of_ble_eq_true rfl) (fun P C Rr => ?_)
  subst hx
  have h0 : f (Int32.toNatClampNeg 0) = nI (s 0) := hf.at (j := 0) rfl (by decide)
  have h9 := above_ge (L := s 0) (c := c) (by omega)
  have hb : c / s 0 ≤ c := Nat.div_le_self c _
  have hb2 : 2 * s 0 * (c / s 0 + 1) ≤ 16 * 17 := Nat.mul_le_mul (by omega) (by omega)
  obtain ⟨o, ho⟩ : ∃ o, o = 2 * s 0 * (c / s 0 + 1) - 1 - c := ⟨_, rfl⟩
  have key : 2 * f (Int32.toNatClampNeg 0) * (nI c / f (Int32.toNatClampNeg 0) + 1) - 1 - nI c = nI o := by
    rw [h0, pk_div (by omega) (by omega) (by omega), show (2 : Int32) = nI 2 from rfl, pk_mul, nI_1, pk_mul, show (1 : Int32) = nI 1 from rfl, pk_sub (by omega), pk_sub (by omega), ho]
  have hu : upN s c = if o < 16 ∧ 0 < s (37 + c) + s (37 + o) then some o else none := by unfold upN; rw [← ho]
  have hval : ∀ j, j < 16 → f ((37 : Int32) + nI j).toNatClampNeg = nI (s (37 + j)) := fun j hj => hf.at (nadd 37 j rfl) (by omega)
  refine st_iconst C (v := 2) (dk DX6_above_0 0 rfl) (by decide) ?_
  refine st_aload_n C (dk DX6_above_0 1 rfl) rfl ?_
  refine st_iconst C (v := 0) (dk DX6_above_0 2 rfl) (by decide) ?_
  refine st_iald C (dk DX6_above_0 3 rfl) 0 rfl (vp_nI (show (0 : Int32) = nI 0 from rfl) (by decide) (by decide)) ?_
  refine st_imul C (dk DX6_above_0 4 rfl) ?_
  refine st_iload_n C (dk DX6_above_0 5 rfl) rfl ?_
  refine st_aload_n C (dk DX6_above_0 6 rfl) rfl ?_
  refine st_iconst C (v := 0) (dk DX6_above_0 7 rfl) (by decide) ?_
  refine st_iald C (dk DX6_above_0 8 rfl) 0 rfl (vp_nI (show (0 : Int32) = nI 0 from rfl) (by decide) (by decide)) ?_
  refine st_idiv C (dk DX6_above_0 9 rfl) (by rw [h0]; exact nI_ne0 (by omega) (by omega)) ?_
  refine st_iconst C (v := 1) (dk DX6_above_0 10 rfl) (by decide) ?_
  refine st_iadd C (dk DX6_above_0 11 rfl) ?_
  refine st_imul C (dk DX6_above_0 12 rfl) ?_
  refine st_iconst C (v := 1) (dk DX6_above_0 13 rfl) (by decide) ?_
  refine st_isub C (dk DX6_above_0 14 rfl) ?_
  refine st_iload_n C (dk DX6_above_0 15 rfl) rfl ?_
  refine st_isub C (dk DX6_above_0 16 rfl) ?_
  rw [key]
  refine st_istore_n C (dk DX6_above_0 17 rfl) (by decide) rfl ?_
  refine st_iload_n C (dk DX6_above_0 18 rfl) rfl ?_
  refine st_cS C (k_X6_isCell l G) mf_X6_isCell ms_X6_isCell ml_RX6_63 (dk DX6_above_0 19 rfl) [] rfl rfl rfl rfl (Nat.le_of_ble_eq_true rfl) ⟨Nat.le_of_ble_eq_true rfl, Nat.le_of_ble_eq_true rfl⟩ ⟨Nat.zero_le _, Nat.zero_le _⟩ (fun r9 w9 hq9 => ?_)
  obtain ⟨rfl, rfl⟩ := hq9
  refine st_if_eq C (tgt := 45) (dk DX6_above_0 20 rfl) (by decide) (fun c_22 => ?_) (fun c_22 => ?_)
  · refine st_iconst C (v := -1) (dk DX6_above_0 35 rfl) (by decide) ?_
    exact Rr 0 0 _ _ _ _ _ _ (Nat.zero_le _) (Nat.zero_le _) (dk DX6_above_0 36 rfl) (.inr (.inl ⟨_, rfl, rfl, rfl, rfl⟩)) rfl ⟨rfl, ⟨by rw [hu, if_neg (fun h => rInR15_t c_22 (by omega) h.1)]; rfl, rfl⟩⟩
  · refine st_aload_n C (dk DX6_above_0 21 rfl) rfl ?_
    refine st_bipush C (v := 37) (dk DX6_above_0 22 rfl) (by decide) ?_
    refine st_iload_n C (dk DX6_above_0 23 rfl) rfl ?_
    refine st_iadd C (dk DX6_above_0 24 rfl) ?_
    refine st_iald C (dk DX6_above_0 25 rfl) 0 rfl (vpA (k := 37) rfl (by omega) (by decide)) ?_
    refine st_aload_n C (dk DX6_above_0 26 rfl) rfl ?_
    refine st_bipush C (v := 37) (dk DX6_above_0 27 rfl) (by decide) ?_
    refine st_iload_n C (dk DX6_above_0 28 rfl) rfl ?_
    refine st_iadd C (dk DX6_above_0 29 rfl) ?_
    refine st_iald C (dk DX6_above_0 30 rfl) 0 rfl (vpA (k := 37) rfl (by have := rInR15_f c_22 (by omega); omega) (by decide)) ?_
    refine st_iadd C (dk DX6_above_0 31 rfl) ?_
    refine st_if_le C (tgt := 45) (dk DX6_above_0 32 rfl) (by decide) (fun c_38 => ?_) (fun c_38 => ?_)
    · refine st_iconst C (v := -1) (dk DX6_above_0 35 rfl) (by decide) ?_
      refine Rr 0 0 _ _ _ _ _ _ (Nat.zero_le _) (Nat.zero_le _) (dk DX6_above_0 36 rfl) (.inr (.inl ⟨_, rfl, rfl, rfl, rfl⟩)) rfl ?_
      have ho16 := rInR15_f c_22 (by omega)
      have l1 := hla c hc
      have l2 := hla o ho16
      rw [hval c hc, hval o ho16, nI_add] at c_38
      have e9 := (ge_nI (a := s (37 + c) + s (37 + o)) (i := 0) (by omega) (by decide) rfl rfl).mp c_38
      exact ⟨rfl, by rw [hu, if_neg (by omega)]; rfl, rfl⟩
    · refine st_iload_n C (dk DX6_above_0 33 rfl) rfl ?_
      refine st_goto C (tgt := 46) (dk DX6_above_0 34 rfl) (by decide) ?_
      refine Rr 0 0 _ _ _ _ _ _ (Nat.zero_le _) (Nat.zero_le _) (dk DX6_above_0 36 rfl) (.inr (.inl ⟨_, rfl, rfl, rfl, rfl⟩)) rfl ?_
      have ho16 := rInR15_f c_22 (by omega)
      have l1 := hla c hc
      have l2 := hla o ho16
      rw [hval c hc, hval o ho16, nI_add] at c_38
      have e9 := mt (ge_nI (a := s (37 + c) + s (37 + o)) (i := 0) (by omega) (by decide) rfl rfl).mpr c_38
      exact ⟨rfl, by rw [hu, if_pos ⟨ho16, by omega⟩]; rfl, rfl⟩
set_option maxHeartbeats 4000000 in
set_option maxRecDepth 100000 in
theorem k_X6_below (l : Launch) (G : wG) {a : Nat} {f : Nat → Int32} {s : mS} {x : Int32} {c : Nat} (hf : hd53 f s) (hL : 2 ≤ s 0) (hL2 : s 0 ≤ 8) (hla : ∀ j, j < 16 → s (37 + j) ≤ 1) (hx : x = nI c) (hc : c < 16) : Con0 l G yX6_below cX6_below 3 (some .int) 2 [.ref a, .int x] [(a, aI G 53 f)] (fun r w => r = some (.int (opI (dnN s c))) ∧ w = [(a, aI G 53 f)]) := by
  refine Con.mk (by decide +kernel) (Nat.le_of_ble_eq_true rfl) (fun P C Rr => ?_)
  subst hx
  have h0 : f (Int32.toNatClampNeg 0) = nI (s 0) := hf.at (j := 0) rfl (by decide)
  have hb : c / s 0 ≤ c := Nat.div_le_self c _
  have hb2 : 2 * s 0 * (c / s 0) ≤ 16 * 16 := Nat.mul_le_mul (by omega) (by omega)
  have hval : ∀ j, j < 16 → f ((37 : Int32) + nI j).toNatClampNeg = nI (s (37 + j)) := fun j hj => hf.at (nadd 37 j rfl) (by omega)
  by_cases hz : c / s 0 = 0
  · have key : 2 * f (Int32.toNatClampNeg 0) * (nI c / f (Int32.toNatClampNeg 0)) - 1 - nI c = nI 0 - nI 1 - nI c := by
      rw [h0, pk_div (by omega) (by omega) (by omega), show (2 : Int32) = nI 2 from rfl, pk_mul, pk_mul, hz, Nat.mul_zero]; rfl
    have hneg : nI 0 - nI 1 - nI c < 0 := by
      have : ∀ c, c < 16 → nI 0 - nI 1 - nI c < 0 := by decide +kernel
      exact this c hc
    have hu : dnN s c = none := by unfold dnN; rw [if_pos hz]
    refine st_iconst C (v := 2) (dk DX6_below_0 0 rfl) (by decide) ?_
    refine st_aload_n C (dk DX6_below_0 1 rfl) rfl ?_
    refine st_iconst C (v := 0) (dk DX6_below_0 2 rfl) (by decide) ?_
    refine st_iald C (dk DX6_below_0 3 rfl) 0 rfl (vp_nI (show (0 : Int32) = nI 0 from rfl) (by decide) (by decide)) ?_
    refine st_imul C (dk DX6_below_0 4 rfl) ?_
    refine st_iload_n C (dk DX6_below_0 5 rfl) rfl ?_
    refine st_aload_n C (dk DX6_below_0 6 rfl) rfl ?_
    refine st_iconst C (v := 0) (dk DX6_below_0 7 rfl) (by decide) ?_
    refine st_iald C (dk DX6_below_0 8 rfl) 0 rfl (vp_nI (show (0 : Int32) = nI 0 from rfl) (by decide) (by decide)) ?_
    refine st_idiv C (dk DX6_below_0 9 rfl) (by rw [h0]; exact nI_ne0 (by omega) (by omega)) ?_
    refine st_imul C (dk DX6_below_0 10 rfl) ?_
    refine st_iconst C (v := 1) (dk DX6_below_0 11 rfl) (by decide) ?_
    refine st_isub C (dk DX6_below_0 12 rfl) ?_
    refine st_iload_n C (dk DX6_below_0 13 rfl) rfl ?_
    refine st_isub C (dk DX6_below_0 14 rfl) ?_
    rw [key]
    refine st_istore_n C (dk DX6_below_0 15 rfl) (by decide) rfl ?_
    refine st_iload_n C (dk DX6_below_0 16 rfl) rfl ?_
    refine st_cS C (k_X6_isCell l G) mf_X6_isCell ms_X6_isCell ml_RX6_63 (dk DX6_below_0 17 rfl) [] rfl rfl rfl rfl (Nat.le_of_ble_eq_true rfl) ⟨Nat.le_of_ble_eq_true rfl, Nat.le_of_ble_eq_true rfl⟩ ⟨Nat.zero_le _, Nat.zero_le _⟩ (fun r9 w9 hq9 => ?_)
    obtain ⟨rfl, rfl⟩ := hq9
    refine st_if_eq C (tgt := 43) (dk DX6_below_0 18 rfl) (by decide) (fun c_20 => ?_) (fun c_20 => ?_)
    · refine st_iconst C (v := -1) (dk DX6_below_0 33 rfl) (by decide) ?_
      exact Rr 0 0 _ _ _ _ _ _ (Nat.zero_le _) (Nat.zero_le _) (dk DX6_below_0 34 rfl) (.inr (.inl ⟨_, rfl, rfl, rfl, rfl⟩)) rfl ⟨rfl, ⟨by rw [hu]; rfl, rfl⟩⟩
    · exact absurd (rInR_neg hneg) c_20
  · have h9 := below_ge (L := s 0) (c := c) (by omega) hz
    obtain ⟨o, ho⟩ : ∃ o, o = 2 * s 0 * (c / s 0) - 1 - c := ⟨_, rfl⟩
    have key : 2 * f (Int32.toNatClampNeg 0) * (nI c / f (Int32.toNatClampNeg 0)) - 1 - nI c = nI o := by
      rw [h0, pk_div (by omega) (by omega) (by omega), show (2 : Int32) = nI 2 from rfl, pk_mul, pk_mul, show (1 : Int32) = nI 1 from rfl, pk_sub (by omega), pk_sub (by omega), ho]
    have hu : dnN s c = if o < 16 ∧ 0 < s (37 + c) + s (37 + o) then some o else none := by unfold dnN; rw [if_neg hz, ← ho]
    refine st_iconst C (v := 2) (dk DX6_below_0 0 rfl) (by decide) ?_
    refine st_aload_n C (dk DX6_below_0 1 rfl) rfl ?_
    refine st_iconst C (v := 0) (dk DX6_below_0 2 rfl) (by decide) ?_
    refine st_iald C (dk DX6_below_0 3 rfl) 0 rfl (vp_nI (show (0 : Int32) = nI 0 from rfl) (by decide) (by decide)) ?_
    refine st_imul C (dk DX6_below_0 4 rfl) ?_
    refine st_iload_n C (dk DX6_below_0 5 rfl) rfl ?_
    refine st_aload_n C (dk DX6_below_0 6 rfl) rfl ?_
    refine st_iconst C (v := 0) (dk DX6_below_0 7 rfl) (by decide) ?_
    refine st_iald C (dk DX6_below_0 8 rfl) 0 rfl (vp_nI (show (0 : Int32) = nI 0 from rfl) (by decide) (by decide)) ?_
    refine st_idiv C (dk DX6_below_0 9 rfl) (by rw [h0]; exact nI_ne0 (by omega) (by omega)) ?_
    refine st_imul C (dk DX6_below_0 10 rfl) ?_
    refine st_iconst C (v := 1) (dk DX6_below_0 11 rfl) (by decide) ?_
    refine st_isub C (dk DX6_below_0 12 rfl) ?_
    refine st_iload_n C (dk DX6_below_0 13 rfl) rfl ?_
    refine st_isub C (dk DX6_below_0 14 rfl) ?_
    rw [key]
    refine st_istore_n C (dk DX6_below_0 15 rfl) (by decide) rfl ?_
    refine st_iload_n C (dk DX6_below_0 16 rfl) rfl ?_
    refine st_cS C (k_X6_isCell l G) mf_X6_isCell ms_X6_isCell ml_RX6_63 (dk DX6_below_0 17 rfl) [] rfl rfl rfl rfl (Nat.le_of_ble_eq_true rfl) ⟨Nat.le_of_ble_eq_true rfl, Nat.le_of_ble_eq_true rfl⟩ ⟨Nat.zero_le _, Nat.zero_le _⟩ (fun r9 w9 hq9 => ?_)
    obtain ⟨rfl, rfl⟩ := hq9
    refine st_if_eq C (tgt := 43) (dk DX6_below_0 18 rfl) (by decide) (fun c_20 => ?_) (fun c_20 => ?_)
    · refine st_iconst C (v := -1) (dk DX6_below_0 33 rfl) (by decide) ?_
      exact Rr 0 0 _ _ _ _ _ _ (Nat.zero_le _) (Nat.zero_le _) (dk DX6_below_0 34 rfl) (.inr (.inl ⟨_, rfl, rfl, rfl, rfl⟩)) rfl ⟨rfl, ⟨by rw [hu, if_neg (fun h => rInR15_t c_20 (by omega) h.1)]; rfl, rfl⟩⟩
    · refine st_aload_n C (dk DX6_below_0 19 rfl) rfl ?_
      refine st_bipush C (v := 37) (dk DX6_below_0 20 rfl) (by decide) ?_
      refine st_iload_n C (dk DX6_below_0 21 rfl) rfl ?_
      refine st_iadd C (dk DX6_below_0 22 rfl) ?_
      refine st_iald C (dk DX6_below_0 23 rfl) 0 rfl (vpA (k := 37) rfl (by omega) (by decide)) ?_
      refine st_aload_n C (dk DX6_below_0 24 rfl) rfl ?_
      refine st_bipush C (v := 37) (dk DX6_below_0 25 rfl) (by decide) ?_
      refine st_iload_n C (dk DX6_below_0 26 rfl) rfl ?_
      refine st_iadd C (dk DX6_below_0 27 rfl) ?_
      refine st_iald C (dk DX6_below_0 28 rfl) 0 rfl (vpA (k := 37) rfl (by have := rInR15_f c_20 (by omega); omega) (by decide)) ?_
      refine st_iadd C (dk DX6_below_0 29 rfl) ?_
      refine st_if_le C (tgt := 43) (dk DX6_below_0 30 rfl) (by decide) (fun c_36 => ?_) (fun c_36 => ?_)
      · refine st_iconst C (v := -1) (dk DX6_below_0 33 rfl) (by decide) ?_
        refine Rr 0 0 _ _ _ _ _ _ (Nat.zero_le _) (Nat.zero_le _) (dk DX6_below_0 34 rfl) (.inr (.inl ⟨_, rfl, rfl, rfl, rfl⟩)) rfl ?_
        have ho16 := rInR15_f c_20 (by omega)
        have l1 := hla c hc
        have l2 := hla o ho16
        rw [hval c hc, hval o ho16, nI_add] at c_36
        have e9 := (ge_nI (a := s (37 + c) + s (37 + o)) (i := 0) (by omega) (by decide) rfl rfl).mp c_36
        exact ⟨rfl, by rw [hu, if_neg (by omega)]; rfl, rfl⟩
      · refine st_iload_n C (dk DX6_below_0 31 rfl) rfl ?_
        refine st_goto C (tgt := 44) (dk DX6_below_0 32 rfl) (by decide) ?_
        refine Rr 0 0 _ _ _ _ _ _ (Nat.zero_le _) (Nat.zero_le _) (dk DX6_below_0 34 rfl) (.inr (.inl ⟨_, rfl, rfl, rfl, rfl⟩)) rfl ?_
        have ho16 := rInR15_f c_20 (by omega)
        have l1 := hla c hc
        have l2 := hla o ho16
        rw [hval c hc, hval o ho16, nI_add] at c_36
        have e9 := mt (ge_nI (a := s (37 + c) + s (37 + o)) (i := 0) (by omega) (by decide) rfl rfl).mpr c_36
        exact ⟨rfl, by rw [hu, if_pos ⟨ho16, by omega⟩]; rfl, rfl⟩
set_option maxHeartbeats 4000000 in
set_option maxRecDepth 100000 in
theorem k_X6_leads (l : Launch) (G : wG) {a : Nat} {f : Nat → Int32} {s : mS} {x y : Int32} {c st : Nat} (hf : hd53 f s) (hL : 2 ≤ s 0) (hL2 : s 0 ≤ 8) (hla : ∀ j, j < 16 → s (37 + j) ≤ 1) (hx : x = nI c) (hc : c < 16) (hy : y = nI st) (hst : st < 4) : Con0 l G yX6_leads cX6_leads 4 (some .int) 3 [.ref a, .int x, .int y] [(a, aI G 53 f)] (fun r w => r = some (.int (opI (ldN s c st))) ∧ w = [(a, aI G 53 f)]) := by
  refine Con.mk (by decide +kernel) (Nat.le_of_ble_eq_true rfl) (fun P C Rr => ?_)
  subst hx
  subst hy
  have J40 : ∀ (v : Int32) (o : Option Nat), ((∃ k, v = nI k ∧ k < 2 ^ 30 ∧ o = if k < 16 then some k else none) ∨ (v < 0 ∧ o = none)) → ldN s c st = o → P 0 0 40 [(0, .ref a), (1, .int (nI c)), (2, .int (nI st)), (3, .int v)] [] [(a, aI G 53 f)] := by
    intro v o hv ho
    refine st_iload_n C (dk DX6_leads_0 24 rfl) rfl ?_
    refine st_cS C (k_X6_isCell l G) mf_X6_isCell ms_X6_isCell ml_RX6_63 (dk DX6_leads_0 25 rfl) [] rfl rfl rfl rfl (Nat.le_of_ble_eq_true rfl) ⟨Nat.le_of_ble_eq_true rfl, Nat.le_of_ble_eq_true rfl⟩ ⟨Nat.zero_le _, Nat.zero_le _⟩ (fun r9 w9 hq9 => ?_)
    obtain ⟨rfl, rfl⟩ := hq9
    refine st_if_eq C (tgt := 51) (dk DX6_leads_0 26 rfl) (by decide) (fun c_44 => ?_) (fun c_44 => ?_)
    · refine st_iconst C (v := -1) (dk DX6_leads_0 29 rfl) (by decide) ?_
      refine Rr 0 0 _ _ _ _ _ _ (Nat.zero_le _) (Nat.zero_le _) (dk DX6_leads_0 30 rfl) (.inr (.inl ⟨_, rfl, rfl, rfl, rfl⟩)) rfl ?_
      refine ⟨rfl, ?_, rfl⟩
      rw [ho]
      rcases hv with ⟨k, rfl, hk, rfl⟩ | ⟨-, rfl⟩
      · rw [if_neg (rInR15_t c_44 (by omega))]; rfl
      · rfl
    · refine st_iload_n C (dk DX6_leads_0 27 rfl) rfl ?_
      refine st_goto C (tgt := 52) (dk DX6_leads_0 28 rfl) (by decide) ?_
      refine Rr 0 0 _ _ _ _ _ _ (Nat.zero_le _) (Nat.zero_le _) (dk DX6_leads_0 30 rfl) (.inr (.inl ⟨_, rfl, rfl, rfl, rfl⟩)) rfl ?_
      refine ⟨rfl, ?_, rfl⟩
      rw [ho]
      rcases hv with ⟨k, rfl, hk, rfl⟩ | ⟨hn, -⟩
      · rw [if_pos (rInR15_f c_44 (by omega))]; rfl
      · exact absurd (rInR_neg hn) c_44
  refine st_iload_n C (dk DX6_leads_0 0 rfl) rfl ?_
  refine st_if_ne C (tgt := 10) (dk DX6_leads_0 1 rfl) (by decide) (fun c_1 => ?_) (fun c_1 => ?_)
  · refine st_iload_n C (dk DX6_leads_0 6 rfl) rfl ?_
    refine st_iconst C (v := 1) (dk DX6_leads_0 7 rfl) (by decide) ?_
    refine st_icmp_ne C (tgt := 21) (dk DX6_leads_0 8 rfl) (by decide) (fun c_12 => ?_) (fun c_12 => ?_)
    · refine st_iload_n C (dk DX6_leads_0 13 rfl) rfl ?_
      refine st_iconst C (v := 2) (dk DX6_leads_0 14 rfl) (by decide) ?_
      refine st_icmp_ne C (tgt := 34) (dk DX6_leads_0 15 rfl) (by decide) (fun c_23 => ?_) (fun c_23 => ?_)
      · refine st_aload_n C (dk DX6_leads_0 20 rfl) rfl ?_
        refine st_iload_n C (dk DX6_leads_0 21 rfl) rfl ?_
        refine st_cS C (k_X6_above l G hf hL hL2 hla rfl hc) mf_X6_above ms_X6_above ml_RX6_71 (dk DX6_leads_0 22 rfl) [0] rfl rfl rfl rfl (Nat.le_of_ble_eq_true rfl) ⟨Nat.le_of_ble_eq_true rfl, Nat.le_of_ble_eq_true rfl⟩ ⟨Nat.zero_le _, Nat.zero_le _⟩ (fun r9 w9 hq9 => ?_)
        obtain ⟨rfl, rfl⟩ := hq9
        refine st_istore_n C (dk DX6_leads_0 23 rfl) (by decide) rfl ?_
        have h0 : ¬ st = 0 := fun h => c_1 (by rw [h]; rfl)
        have h1 : ¬ st = 1 := fun h => c_12 (by rw [h]; rfl)
        have h2 : ¬ st = 2 := fun h => c_23 (by rw [h]; rfl)
        refine J40 _ _ ?_ rfl
        have e : ldN s c st = upN s c := by unfold ldN; rw [if_neg h0, if_neg h1, if_neg h2]
        rw [e]
        cases hd : upN s c with
        | none => exact Or.inr ⟨neg1, rfl⟩
        | some k => exact Or.inl ⟨k, rfl, by have := upN_lt hd; omega, by rw [if_pos (upN_lt hd)]⟩
      · refine st_aload_n C (dk DX6_leads_0 16 rfl) rfl ?_
        refine st_iload_n C (dk DX6_leads_0 17 rfl) rfl ?_
        refine st_cS C (k_X6_below l G hf hL hL2 hla rfl hc) mf_X6_below ms_X6_below ml_RX6_67 (dk DX6_leads_0 18 rfl) [0] rfl rfl rfl rfl (Nat.le_of_ble_eq_true rfl) ⟨Nat.le_of_ble_eq_true rfl, Nat.le_of_ble_eq_true rfl⟩ ⟨Nat.zero_le _, Nat.zero_le _⟩ (fun r9 w9 hq9 => ?_)
        obtain ⟨rfl, rfl⟩ := hq9
        refine st_goto C (tgt := 39) (dk DX6_leads_0 19 rfl) (by decide) ?_
        refine st_istore_n C (dk DX6_leads_0 23 rfl) (by decide) rfl ?_
        have hst0 : st = 2 := (eq_nI (a := st) (i := 2) (by omega) (by decide) rfl rfl).mp c_23
        refine J40 _ _ ?_ rfl
        subst hst0
        have e : ldN s c 2 = dnN s c := by unfold ldN; rw [if_neg (by decide), if_neg (by decide), if_pos rfl]
        rw [e]
        cases hd : dnN s c with
        | none => exact Or.inr ⟨neg1, rfl⟩
        | some k => exact Or.inl ⟨k, rfl, by have := dnN_lt hd; omega, by rw [if_pos (dnN_lt hd)]⟩
    · refine st_iload_n C (dk DX6_leads_0 9 rfl) rfl ?_
      refine st_iconst C (v := 1) (dk DX6_leads_0 10 rfl) (by decide) ?_
      refine st_iadd C (dk DX6_leads_0 11 rfl) ?_
      refine st_goto C (tgt := 39) (dk DX6_leads_0 12 rfl) (by decide) ?_
      refine st_istore_n C (dk DX6_leads_0 23 rfl) (by decide) rfl ?_
      have hst0 : st = 1 := (eq_nI (a := st) (i := 1) (by omega) (by decide) rfl rfl).mp c_12
      refine J40 _ _ ?_ rfl
      subst hst0
      exact Or.inl ⟨c + 1, nI_1 c, by omega, by unfold ldN; rw [if_neg (by decide), if_pos rfl]⟩
  · refine st_iload_n C (dk DX6_leads_0 2 rfl) rfl ?_
    refine st_iconst C (v := 1) (dk DX6_leads_0 3 rfl) (by decide) ?_
    refine st_isub C (dk DX6_leads_0 4 rfl) ?_
    refine st_goto C (tgt := 39) (dk DX6_leads_0 5 rfl) (by decide) ?_
    refine st_istore_n C (dk DX6_leads_0 23 rfl) (by decide) rfl ?_
    have hst0 : st = 0 := (eq_nI (a := st) (i := 0) (by omega) (by decide) rfl rfl).mp c_1
    refine J40 _ _ ?_ rfl
    subst hst0
    by_cases h0 : c = 0
    · subst h0
      exact Or.inr ⟨by decide, rfl⟩
    · refine Or.inl ⟨c - 1, pk_sub (b := 1) (by omega), by omega, ?_⟩
      unfold ldN
      rw [if_pos rfl, if_neg h0, if_pos (by omega)]
