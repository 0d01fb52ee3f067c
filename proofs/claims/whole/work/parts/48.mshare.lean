/-! the reference: share, reached, isAt -/
def shD (k : Nat) : UInt64 := FP.ddiv (FP.i2d (nI k)) (4625196817309499392 : UInt64)
theorem shD_ok : ∀ k, k < 17 → vf_n64 (FP.ddiv (FP.i2d (nI k)) (4625196817309499392 : UInt64)) := by unfold vf_n64; decide +kernel
set_option maxHeartbeats 4000000 in
set_option maxRecDepth 100000 in
theorem k_X6_share (l : Launch) (G : wG) {M : Nat} {A : Nat → Nat} {ke ty th ap ft bo ot il : Int32} {s : mS} {f : Nat → Int32} {qu fr by9 fa fs : Nat → Int32} (hf : hd53 f s) (hok : mOk s) (hil : il = 0 ∨ (il = 1 ∧ MRel (fS s) qu fr by9 fa fs)) : Con0 l G yX6_share cX6_share 1 (some .double) 7 [.ref M] [(M, ob 5 (mF A ke ty th ap ft bo ot il)), (A 0, aI G 53 f), (A 5, aI G 4624 qu), (A 6, aI G 4624 fr), (A 7, aI G 4624 by9), (A 8, aI G 4624 fa), (A 9, aI G 16 fs)] (fun r w9 => r = some (.double (shD (cnt (fS s) 16))) ∧ ∃ (bo9 ot9 : Int32) (qu9 fr9 by99 fa9 fs9 : Nat → Int32), MRel (fS s) qu9 fr9 by99 fa9 fs9 ∧ w9 = [(M, ob 5 (mF A ke ty th ap ft bo9 ot9 1)), (A 0, aI G 53 f), (A 5, aI G 4624 qu9), (A 6, aI G 4624 fr9), (A 7, aI G 4624 by99), (A 8, aI G 4624 fa9), (A 9, aI G 16 fs9)]) := by
  refine Con.mk (by decide +kernel) (Nat.le_of_ble_eq_true rfl) (fun P C Rr => ?_)
  refine st_aload_n C (dk DX6_share_0 0 rfl) rfl ?_
  refine st_cV C (k_X6_laysNow l G hf hok hil) mf_X6_laysNow mi_X6_laysNow ml_RX6_123 (dk DX6_share_0 1 rfl) [0, 1, 2, 3, 4, 5, 6] rfl rfl rfl rfl (Nat.le_of_ble_eq_true rfl) rfl rfl ⟨Nat.le_of_ble_eq_true rfl, Nat.le_of_ble_eq_true rfl⟩ ⟨Nat.zero_le _, Nat.zero_le _⟩ (fun r9 w9 hq9 => ?_)
  obtain ⟨rfl, bo1, ot1, qu1, fr1, by1, fa1, fs1, hM1, rfl⟩ := hq9
  refine st_aload_n C (dk DX6_share_0 2 rfl) rfl ?_
  refine st_cV C (k_X6_reachable l G hok hM1) mf_X6_reachable mi_X6_reachable ml_RX6_158 (dk DX6_share_0 3 rfl) [0, 6] rfl rfl rfl rfl (Nat.le_of_ble_eq_true rfl) rfl rfl ⟨Nat.le_of_ble_eq_true rfl, Nat.le_of_ble_eq_true rfl⟩ ⟨Nat.zero_le _, Nat.zero_le _⟩ (fun r9 w9 hq9 => ?_)
  obtain ⟨rfl, rfl⟩ := hq9
  refine st_i2d C (dk DX6_share_0 4 rfl) ?_
  refine st_ldc2d C (dk DX6_share_0 5 rfl) kc_RX6_173 ?_
  refine st_ddiv C (dk DX6_share_0 6 rfl) (shD_ok _ (by have := cnt_le (fS s) 16; omega)) ?_
  exact Rr 0 0 _ _ _ _ _ _ (Nat.zero_le _) (Nat.zero_le _) (dk DX6_share_0 7 rfl) (.inr (.inr (.inr (.inr (.inl ⟨_, rfl, rfl, rfl, rfl⟩))))) rfl ⟨rfl, ⟨rfl, bo1, ot1, qu1, fr1, by1, fa1, fs1, hM1, rfl⟩⟩
set_option maxHeartbeats 4000000 in
set_option maxRecDepth 100000 in
theorem k_X6_reached (l : Launch) (G : wG) {M : Nat} {A : Nat → Nat} {ke ty th ap ft bo ot il : Int32} {s : mS} {f : Nat → Int32} {qu fr by9 fa fs : Nat → Int32} (hf : hd53 f s) (hok : mOk s) (hil : il = 0 ∨ (il = 1 ∧ MRel (fS s) qu fr by9 fa fs)) : Con0 l G yX6_reached cX6_reached 1 (some .double) 8 [.ref M] [(M, ob 5 (mF A ke ty th ap ft bo ot il)), (A 0, aI G 53 f), (A 5, aI G 4624 qu), (A 6, aI G 4624 fr), (A 7, aI G 4624 by9), (A 8, aI G 4624 fa), (A 9, aI G 16 fs)] (fun r w9 => r = some (.double (shD (cnt (fS s) 16))) ∧ ∃ (bo9 ot9 : Int32) (qu9 fr9 by99 fa9 fs9 : Nat → Int32), MRel (fS s) qu9 fr9 by99 fa9 fs9 ∧ w9 = [(M, ob 5 (mF A ke ty 0 ap ft bo9 ot9 1)), (A 0, aI G 53 f), (A 5, aI G 4624 qu9), (A 6, aI G 4624 fr9), (A 7, aI G 4624 by99), (A 8, aI G 4624 fa9), (A 9, aI G 16 fs9)]) := by
  refine Con.mk (by decide +kernel) (Nat.le_of_ble_eq_true rfl) (fun P C Rr => ?_)
  refine st_aload_n C (dk DX6_reached_0 0 rfl) rfl ?_
  refine st_iconst C (v := 0) (dk DX6_reached_0 1 rfl) (by decide) ?_
  refine st_put C fl_RX6_40 fc_5 fw_5_6 (dk DX6_reached_0 2 rfl) 0 rfl rfl rfl (Nat.le_of_ble_eq_true rfl) ?_
  refine st_aload_n C (dk DX6_reached_0 3 rfl) rfl ?_
  refine st_cV C (k_X6_share l G hf hok hil) mf_X6_share mi_X6_share ml_RX6_175 (dk DX6_reached_0 4 rfl) [0, 1, 2, 3, 4, 5, 6] rfl rfl rfl rfl (Nat.le_of_ble_eq_true rfl) rfl rfl ⟨Nat.le_of_ble_eq_true rfl, Nat.le_of_ble_eq_true rfl⟩ ⟨Nat.zero_le _, Nat.zero_le _⟩ (fun r9 w9 hq9 => ?_)
  obtain ⟨rfl, bo6, ot6, qu6, fr6, by6, fa6, fs6, hM6, rfl⟩ := hq9
  exact Rr 0 0 _ _ _ _ _ _ (Nat.zero_le _) (Nat.zero_le _) (dk DX6_reached_0 5 rfl) (.inr (.inr (.inr (.inr (.inl ⟨_, rfl, rfl, rfl, rfl⟩))))) rfl ⟨rfl, ⟨rfl, bo6, ot6, qu6, fr6, by6, fa6, fs6, hM6, rfl⟩⟩
def hdT (f3 : Nat → Int32) (n : Nat) (tx : Nat → Nat) : Prop := ∀ j, j < n → f3 j = nI (tx j) ∧ 33 ≤ tx j ∧ tx j ≤ 126
set_option maxHeartbeats 4000000 in
set_option maxRecDepth 100000 in
theorem k_X6_isAt (l : Launch) (G : wG) {M : Nat} {A : Nat → Nat} {ke ty th ap ft bo ot il : Int32} {f3 : Nat → Int32} {n : Nat} {tx : Nat → Nat} {x y : Int32} {a lo hi : Nat} (hty : ty = nI n) (hn : n ≤ 60) (ht : hdT f3 n tx) (hap : ap = nI a) (ha : a < 2 ^ 30) (hlo : x = nI lo) (hhi : y = nI hi) (hlo2 : lo < 2 ^ 31) (hhi2 : hi < 2 ^ 31) : Con0 l G yX6_isAt cX6_isAt 3 (some .boolean) 1 [.ref M, .int x, .int y] [(M, ob 5 (mF A ke ty th ap ft bo ot il)), (A 3, aI G 60 f3)] (fun r w => r = some (.int (if a < n ∧ lo ≤ tx a ∧ tx a ≤ hi then 1 else 0)) ∧ w = [(M, ob 5 (mF A ke ty th ap ft bo ot il)), (A 3, aI G 60 f3)]) := by
  refine Con.mk (by decide +kernel) (Nat.le_of_ble_eq_true rfl) (fun P C Rr => ?_)
  refine st_aload_n C (dk DX6_isAt_0 0 rfl) rfl ?_
  refine st_get C fl_RX6_132 (dk DX6_isAt_0 1 rfl) 0 rfl rfl ?_
  refine st_aload_n C (dk DX6_isAt_0 2 rfl) rfl ?_
  refine st_get C fl_RX6_129 (dk DX6_isAt_0 3 rfl) 0 rfl rfl ?_
  refine st_icmp_ge C (tgt := 32) (dk DX6_isAt_0 4 rfl) (by decide) (fun c_8 => ?_) (fun c_8 => ?_)
  · refine st_iconst C (v := 0) (dk DX6_isAt_0 16 rfl) (by decide) ?_
    exact Rr 0 0 _ _ _ _ _ _ (Nat.zero_le _) (Nat.zero_le _) (dk DX6_isAt_0 17 rfl) (.inr (.inr (.inl ⟨_, rfl, (by first | exact Or.inl rfl | exact Or.inr rfl | assumption), rfl, rfl, rfl⟩))) rfl ⟨rfl, ⟨by rw [if_neg (fun h => by have h1 := (ge_nI (a := n) (i := a) (by omega) (by omega) hty hap).mp c_8; have h2 := h.1; omega)], rfl⟩⟩
  · have han : a < n := by
      have h9 := mt (ge_nI (a := n) (i := a) (by omega) (by omega) hty hap).mpr c_8
      omega
    have hta := ht a han
    have hv : f3 ap.toNatClampNeg = nI (tx a) := by rw [cl_nI hap (by omega)]; exact hta.1
    refine st_aload_n C (dk DX6_isAt_0 5 rfl) rfl ?_
    refine st_get C fl_RX6_19 (dk DX6_isAt_0 6 rfl) 0 rfl rfl ?_
    refine st_aload_n C (dk DX6_isAt_0 7 rfl) rfl ?_
    refine st_get C fl_RX6_132 (dk DX6_isAt_0 8 rfl) 0 rfl rfl ?_
    refine st_iald C (dk DX6_isAt_0 9 rfl) 1 rfl (vp_nI hap (by omega) (by decide)) ?_
    rw [hv]
    refine st_iload_n C (dk DX6_isAt_0 10 rfl) rfl ?_
    refine st_iload_n C (dk DX6_isAt_0 11 rfl) rfl ?_
    refine st_cS C (k_X6_in l G) mf_X6_in ms_X6_in ml_RX6_44 (dk DX6_isAt_0 12 rfl) [] rfl rfl rfl rfl (Nat.le_of_ble_eq_true rfl) ⟨Nat.le_of_ble_eq_true rfl, Nat.le_of_ble_eq_true rfl⟩ ⟨Nat.zero_le _, Nat.zero_le _⟩ (fun r9 w9 hq9 => ?_)
    obtain ⟨rfl, rfl⟩ := hq9
    refine st_if_eq C (tgt := 32) (dk DX6_isAt_0 13 rfl) (by decide) (fun c_25 => ?_) (fun c_25 => ?_)
    · refine st_iconst C (v := 0) (dk DX6_isAt_0 16 rfl) (by decide) ?_
      refine Rr 0 0 _ _ _ _ _ _ (Nat.zero_le _) (Nat.zero_le _) (dk DX6_isAt_0 17 rfl) (.inr (.inr (.inl ⟨_, rfl, (by first | exact Or.inl rfl | exact Or.inr rfl | assumption), rfl, rfl, rfl⟩))) rfl ?_
      have h0 := rInRg_t (a := lo) (n := hi) hlo2 hhi2 hlo hhi c_25
      exact ⟨rfl, by rw [if_neg (fun h => h0 ⟨tx a, h.2.1, h.2.2, rfl⟩)], rfl⟩
    · refine st_iconst C (v := 1) (dk DX6_isAt_0 14 rfl) (by decide) ?_
      refine st_goto C (tgt := 33) (dk DX6_isAt_0 15 rfl) (by decide) ?_
      refine Rr 0 0 _ _ _ _ _ _ (Nat.zero_le _) (Nat.zero_le _) (dk DX6_isAt_0 17 rfl) (.inr (.inr (.inl ⟨_, rfl, (by first | exact Or.inl rfl | exact Or.inr rfl | assumption), rfl, rfl, rfl⟩))) rfl ?_
      obtain ⟨j, h1, h2, h3⟩ := rInRg_f (a := lo) (n := hi) hlo2 hhi2 hlo hhi c_25
      have h4 : tx a = j := (nI_eq (by omega) (by omega)).mp h3
      exact ⟨rfl, by rw [if_pos ⟨han, by omega, by omega⟩], rfl⟩
