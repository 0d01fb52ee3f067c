/-! the reference: locks, refusals, steps -/
set_option maxHeartbeats 4000000 in
set_option maxRecDepth 100000 in
theorem k_X6_lockOn (l : Launch) (G : wG) {a : Nat} {f : Nat → Int32} {s : mS} {x y : Int32} {c st : Nat} (hf : hd53 f s) (hx : x = nI c) (hc : c < 16) (hy : y = nI st) (hst : st < 5) (h0 : st = 0 → 0 < c) : Con0 l G yX6_lockOn cX6_lockOn 3 (some .int) 0 [.ref a, .int x, .int y] [(a, aI G 53 f)] (fun r w => r = some (.int (nI (wyN s c st))) ∧ w = [(a, aI G 53 f)]) := by
  refine Con.mk (by decide +kernel) (Nat.le_of_ble_eq_true rfl) (fun P C Rr => ?_)
  subst hx
  subst hy
  refine st_iload_n C (dk DX6_lockOn_0 0 rfl) rfl ?_
  refine st_if_ne C (tgt := 15) (dk DX6_lockOn_0 1 rfl) (by decide) (fun c_1 => ?_) (fun c_1 => ?_)
  · refine st_iload_n C (dk DX6_lockOn_0 10 rfl) rfl ?_
    refine st_iconst C (v := 1) (dk DX6_lockOn_0 11 rfl) (by decide) ?_
    refine st_icmp_ne C (tgt := 29) (dk DX6_lockOn_0 12 rfl) (by decide) (fun c_17 => ?_) (fun c_17 => ?_)
    · refine st_iconst C (v := 0) (dk DX6_lockOn_0 19 rfl) (by decide) ?_
      refine Rr 0 0 _ _ _ _ _ _ (Nat.zero_le _) (Nat.zero_le _) (dk DX6_lockOn_0 20 rfl) (.inr (.inl ⟨_, rfl, rfl, rfl, rfl⟩)) rfl ?_
      have h8 : ¬ st = 0 := fun h => c_1 (by rw [h]; rfl)
      have h9 : ¬ st = 1 := fun h => c_17 (by rw [h]; rfl)
      exact ⟨rfl, by unfold wyN; rw [if_neg h8, if_neg h9]; rfl, rfl⟩
    · refine st_aload_n C (dk DX6_lockOn_0 13 rfl) rfl ?_
      refine st_bipush C (v := 22) (dk DX6_lockOn_0 14 rfl) (by decide) ?_
      refine st_iload_n C (dk DX6_lockOn_0 15 rfl) rfl ?_
      refine st_iadd C (dk DX6_lockOn_0 16 rfl) ?_
      refine st_iald C (dk DX6_lockOn_0 17 rfl) 0 rfl (vpA (k := 22) rfl (by omega) (by decide)) ?_
      refine st_goto C (tgt := 30) (dk DX6_lockOn_0 18 rfl) (by decide) ?_
      refine Rr 0 0 _ _ _ _ _ _ (Nat.zero_le _) (Nat.zero_le _) (dk DX6_lockOn_0 20 rfl) (.inr (.inl ⟨_, rfl, rfl, rfl, rfl⟩)) rfl ?_
      have h9 : st = 1 := (eq_nI (a := st) (i := 1) (by omega) (by decide) rfl rfl).mp c_17
      refine ⟨rfl, ?_, rfl⟩
      rw [hf.at (nadd 22 c (x := 22) rfl) (by omega)]
      unfold wyN; rw [if_neg (by omega), if_pos h9]
  · refine st_aload_n C (dk DX6_lockOn_0 2 rfl) rfl ?_
    refine st_bipush C (v := 22) (dk DX6_lockOn_0 3 rfl) (by decide) ?_
    refine st_iload_n C (dk DX6_lockOn_0 4 rfl) rfl ?_
    refine st_iadd C (dk DX6_lockOn_0 5 rfl) ?_
    refine st_iconst C (v := 1) (dk DX6_lockOn_0 6 rfl) (by decide) ?_
    refine st_isub C (dk DX6_lockOn_0 7 rfl) ?_
    refine st_iald C (dk DX6_lockOn_0 8 rfl) 0 rfl (vp_nI (i := 22 + (c - 1)) (by have := h0 ((eq_nI (a := st) (i := 0) (by omega) (by decide) rfl rfl).mp c_1); rw [show (22 : Int32) = nI 22 from rfl, nI_add, show (1 : Int32) = nI 1 from rfl, pk_sub (by omega)]; congr 1; omega) (by omega) (by decide)) ?_
    refine st_goto C (tgt := 30) (dk DX6_lockOn_0 9 rfl) (by decide) ?_
    refine Rr 0 0 _ _ _ _ _ _ (Nat.zero_le _) (Nat.zero_le _) (dk DX6_lockOn_0 20 rfl) (.inr (.inl ⟨_, rfl, rfl, rfl, rfl⟩)) rfl ?_
    have h9 : st = 0 := (eq_nI (a := st) (i := 0) (by omega) (by decide) rfl rfl).mp c_1
    have hc0 := h0 h9
    refine ⟨rfl, ?_, rfl⟩
    rw [hf.at (j := 22 + (c - 1)) (by rw [show (22 : Int32) = nI 22 from rfl, nI_add, show (1 : Int32) = nI 1 from rfl, pk_sub (by omega)]; congr 1; omega) (by omega)]
    unfold wyN; rw [if_pos h9]
theorem wy5 (s : mS) (o5 : ∀ j, j < 15 → s (22 + j) ≤ 5) {c st nx : Nat} (hl : ldN s c st = some nx) (hst : st < 4) (hc : c < 16 := by omega) : wyN s c st ≤ 5 := by
  obtain ⟨g1, g2⟩ := gM_cases hl hst
  unfold wyN
  split
  · rename_i h
    have := g1 h
    exact o5 _ (by omega)
  · split
    · rename_i h; exact o5 _ (g2 h)
    · omega
set_option maxHeartbeats 4000000 in
set_option maxRecDepth 100000 in
theorem k_X6_refused (l : Launch) (G : wG) {a : Nat} {f : Nat → Int32} {s : mS} {y : Int32} {st : Nat} (hf : hd53 f s) (hok : mOk s) (hy : y = nI st) (hst : st < 5) : Con0 l G yX6_refused cX6_refused 4 (some .int) 4 [.ref a, .int y] [(a, aI G 53 f)] (fun r w => r = some (.int (nI (refN s st))) ∧ w = [(a, aI G 53 f)]) := by
  refine Con.mk (by decide +kernel) (Nat.le_of_ble_eq_true rfl) (fun P C Rr => ?_)
  subst hy
  obtain ⟨o1, o2, o3, o4, o5, o6⟩ := hok
  have hpl : f (Int32.toNatClampNeg 1) = nI (s 1) := hf.at (x := 1) (j := 1) rfl (by decide)
  have hha : f (Int32.toNatClampNeg 2) = nI (s 2) := hf.at (x := 2) (j := 2) rfl (by decide)
  have hke : f ((6 : Int32) + nI (s 1)).toNatClampNeg = nI (s (6 + s 1)) := hf.at (nadd 6 (s 1) (x := 6) rfl) (by omega)
  have l2 : s 2 ≤ 5 := by have := o4 16 (by omega); unfold kAt at this; rwa [if_pos rfl] at this
  have lk : s (6 + s 1) ≤ 5 := by have := o4 (s 1) (by omega); unfold kAt at this; rwa [if_neg (by omega)] at this
  refine st_aload_n C (dk DX6_refused_0 0 rfl) rfl ?_
  refine st_iconst C (v := 1) (dk DX6_refused_0 1 rfl) (by decide) ?_
  refine st_iald C (dk DX6_refused_0 2 rfl) 0 rfl (vp_nI (show (1 : Int32) = nI 1 from rfl) (by decide) (by decide)) ?_
  rw [hpl]
  refine st_istore_n C (dk DX6_refused_0 3 rfl) (by decide) rfl ?_
  refine st_iload_n C (dk DX6_refused_0 4 rfl) rfl ?_
  refine st_iconst C (v := 4) (dk DX6_refused_0 5 rfl) (by decide) ?_
  refine st_icmp_ne C (tgt := 30) (dk DX6_refused_0 6 rfl) (by decide) (fun c_6 => ?_) (fun c_6 => ?_)
  · refine st_aload_n C (dk DX6_refused_0 21 rfl) rfl ?_
    refine st_iload_n C (dk DX6_refused_0 22 rfl) rfl ?_
    refine st_iload_n C (dk DX6_refused_0 23 rfl) rfl ?_
    refine st_cS C (k_X6_leads l G hf o1 o2 o6 rfl o3 rfl (st := st) (by have : ¬ st = 4 := (fun h => c_6 (by rw [h]; rfl)); omega)) mf_X6_leads ms_X6_leads ml_RX6_74 (dk DX6_refused_0 24 rfl) [0] rfl rfl rfl rfl (Nat.le_of_ble_eq_true rfl) ⟨Nat.le_of_ble_eq_true rfl, Nat.le_of_ble_eq_true rfl⟩ ⟨Nat.zero_le _, Nat.zero_le _⟩ (fun r9 w9 hq9 => ?_)
    obtain ⟨rfl, rfl⟩ := hq9
    refine st_iconst C (v := -1) (dk DX6_refused_0 25 rfl) (by decide) ?_
    refine st_icmp_ne C (tgt := 42) (dk DX6_refused_0 26 rfl) (by decide) (fun c_37 => ?_) (fun c_37 => ?_)
    · obtain ⟨nx, hl⟩ : ∃ nx, ldN s (s 1) st = some nx := by
        cases h : ldN s (s 1) st with
        | none => exact absurd (by rw [h]; rfl) c_37
        | some nx => exact ⟨nx, rfl⟩
      refine st_aload_n C (dk DX6_refused_0 29 rfl) rfl ?_
      refine st_iload_n C (dk DX6_refused_0 30 rfl) rfl ?_
      refine st_iload_n C (dk DX6_refused_0 31 rfl) rfl ?_
      refine st_cS C (k_X6_lockOn l G hf rfl o3 rfl hst (gM_cases hl (by have : ¬ st = 4 := (fun h => c_6 (by rw [h]; rfl)); omega)).1) mf_X6_lockOn ms_X6_lockOn ml_RX6_78 (dk DX6_refused_0 32 rfl) [0] rfl rfl rfl rfl (Nat.le_of_ble_eq_true rfl) ⟨Nat.le_of_ble_eq_true rfl, Nat.le_of_ble_eq_true rfl⟩ ⟨Nat.zero_le _, Nat.zero_le _⟩ (fun r9 w9 hq9 => ?_)
      obtain ⟨rfl, rfl⟩ := hq9
      refine st_istore_n C (dk DX6_refused_0 33 rfl) (by decide) rfl ?_
      refine st_iload_n C (dk DX6_refused_0 34 rfl) rfl ?_
      refine st_if_le C (tgt := 64) (dk DX6_refused_0 35 rfl) (by decide) (fun c_50 => ?_) (fun c_50 => ?_)
      · refine st_iconst C (v := 0) (dk DX6_refused_1 3 rfl) (by decide) ?_
        refine Rr 0 0 _ _ _ _ _ _ (Nat.zero_le _) (Nat.zero_le _) (dk DX6_refused_1 4 rfl) (.inr (.inl ⟨_, rfl, rfl, rfl, rfl⟩)) rfl ?_
        have h4 : ¬ st = 4 := fun h => c_6 (by rw [h]; rfl)
        have hw5 := wy5 s o5 hl (by omega)
        have hw := (le0_nI (by omega)).mp c_50
        exact ⟨rfl, by unfold refN; rw [if_neg h4, hl, hw]; rfl, rfl⟩
      · refine st_iload_n C (dk DX6_refused_0 36 rfl) rfl ?_
        refine st_aload_n C (dk DX6_refused_0 37 rfl) rfl ?_
        refine st_iconst C (v := 2) (dk DX6_refused_0 38 rfl) (by decide) ?_
        refine st_iald C (dk DX6_refused_0 39 rfl) 0 rfl (vp_nI (show (2 : Int32) = nI 2 from rfl) (by decide) (by decide)) ?_
        refine st_icmp_eq C (tgt := 64) (dk DX6_refused_1 0 rfl) (by decide) (fun c_57 => ?_) (fun c_57 => ?_)
        · refine st_iconst C (v := 0) (dk DX6_refused_1 3 rfl) (by decide) ?_
          refine Rr 0 0 _ _ _ _ _ _ (Nat.zero_le _) (Nat.zero_le _) (dk DX6_refused_1 4 rfl) (.inr (.inl ⟨_, rfl, rfl, rfl, rfl⟩)) rfl ?_
          have h4 : ¬ st = 4 := fun h => c_6 (by rw [h]; rfl)
          have hw5 := wy5 s o5 hl (by omega)
          have hw : 0 < wyN s (s 1) st := by have := mt (le0_nI (by omega)).mpr c_50; omega
          have he : wyN s (s 1) st = s 2 := by rw [hha] at c_57; exact (nI_eq (by omega) (by omega)).mp c_57
          exact ⟨rfl, by unfold refN; rw [if_neg h4, hl]; show _ = some (Value.int (nI (if _ then _ else _))); rw [if_neg (fun h => h.2 he)]; rfl, rfl⟩
        · refine st_iconst C (v := 2) (dk DX6_refused_1 1 rfl) (by decide) ?_
          refine st_goto C (tgt := 65) (dk DX6_refused_1 2 rfl) (by decide) ?_
          refine Rr 0 0 _ _ _ _ _ _ (Nat.zero_le _) (Nat.zero_le _) (dk DX6_refused_1 4 rfl) (.inr (.inl ⟨_, rfl, rfl, rfl, rfl⟩)) rfl ?_
          have h4 : ¬ st = 4 := fun h => c_6 (by rw [h]; rfl)
          have hw5 := wy5 s o5 hl (by omega)
          have hw : 0 < wyN s (s 1) st := by have := mt (le0_nI (by omega)).mpr c_50; omega
          have he : ¬ wyN s (s 1) st = s 2 := fun h => c_57 (by rw [hha, h])
          exact ⟨rfl, by unfold refN; rw [if_neg h4, hl]; show _ = some (Value.int (nI (if _ then _ else _))); rw [if_pos ⟨hw, he⟩]; rfl, rfl⟩
    · refine st_iconst C (v := 1) (dk DX6_refused_0 27 rfl) (by decide) ?_
      refine Rr 0 0 _ _ _ _ _ _ (Nat.zero_le _) (Nat.zero_le _) (dk DX6_refused_0 28 rfl) (.inr (.inl ⟨_, rfl, rfl, rfl, rfl⟩)) rfl ?_
      have h4 : ¬ st = 4 := fun h => c_6 (by rw [h]; rfl)
      have hl : ldN s (s 1) st = none := (opI_lt (fun k hk => ldN_lt o3 hk)).mp c_37
      exact ⟨rfl, by unfold refN; rw [if_neg h4, hl]; rfl, rfl⟩
  · refine st_aload_n C (dk DX6_refused_0 7 rfl) rfl ?_
    refine st_iconst C (v := 2) (dk DX6_refused_0 8 rfl) (by decide) ?_
    refine st_iald C (dk DX6_refused_0 9 rfl) 0 rfl (vp_nI (show (2 : Int32) = nI 2 from rfl) (by decide) (by decide)) ?_
    refine st_if_ne C (tgt := 28) (dk DX6_refused_0 10 rfl) (by decide) (fun c_12 => ?_) (fun c_12 => ?_)
    · refine st_iconst C (v := 0) (dk DX6_refused_0 19 rfl) (by decide) ?_
      refine Rr 0 0 _ _ _ _ _ _ (Nat.zero_le _) (Nat.zero_le _) (dk DX6_refused_0 20 rfl) (.inr (.inl ⟨_, rfl, rfl, rfl, rfl⟩)) rfl ?_
      have h4 : st = 4 := (eq_nI (a := st) (i := 4) (by omega) (by decide) rfl rfl).mp c_6
      have h2 : ¬ s 2 = 0 := fun h => c_12 (by rw [hha, h]; rfl)
      exact ⟨rfl, by unfold refN; rw [if_pos h4, if_neg (fun h => h2 h.1)]; rfl, rfl⟩
    · refine st_aload_n C (dk DX6_refused_0 11 rfl) rfl ?_
      refine st_bipush C (v := 6) (dk DX6_refused_0 12 rfl) (by decide) ?_
      refine st_iload_n C (dk DX6_refused_0 13 rfl) rfl ?_
      refine st_iadd C (dk DX6_refused_0 14 rfl) ?_
      refine st_iald C (dk DX6_refused_0 15 rfl) 0 rfl (vpA (k := 6) rfl (by omega) (by decide)) ?_
      refine st_if_ne C (tgt := 28) (dk DX6_refused_0 16 rfl) (by decide) (fun c_21 => ?_) (fun c_21 => ?_)
      · refine st_iconst C (v := 0) (dk DX6_refused_0 19 rfl) (by decide) ?_
        refine Rr 0 0 _ _ _ _ _ _ (Nat.zero_le _) (Nat.zero_le _) (dk DX6_refused_0 20 rfl) (.inr (.inl ⟨_, rfl, rfl, rfl, rfl⟩)) rfl ?_
        have h4 : st = 4 := (eq_nI (a := st) (i := 4) (by omega) (by decide) rfl rfl).mp c_6
        have h2 : s 2 = 0 := by rw [hha] at c_12; exact (eq_nI (a := s 2) (i := 0) (by omega) (by decide) rfl rfl).mp c_12
        have h3 : ¬ s (6 + s 1) = 0 := fun h => c_21 (by rw [hke, h]; rfl)
        exact ⟨rfl, by unfold refN; rw [if_pos h4, if_neg (fun h => h3 h.2)]; rfl, rfl⟩
      · refine st_iconst C (v := 1) (dk DX6_refused_0 17 rfl) (by decide) ?_
        refine st_goto C (tgt := 29) (dk DX6_refused_0 18 rfl) (by decide) ?_
        refine Rr 0 0 _ _ _ _ _ _ (Nat.zero_le _) (Nat.zero_le _) (dk DX6_refused_0 20 rfl) (.inr (.inl ⟨_, rfl, rfl, rfl, rfl⟩)) rfl ?_
        have h4 : st = 4 := (eq_nI (a := st) (i := 4) (by omega) (by decide) rfl rfl).mp c_6
        have h2 : s 2 = 0 := by rw [hha] at c_12; exact (eq_nI (a := s 2) (i := 0) (by omega) (by decide) rfl rfl).mp c_12
        have h3 : s (6 + s 1) = 0 := by rw [hke] at c_21; exact (eq_nI (a := s (6 + s 1)) (i := 0) (by omega) (by decide) rfl rfl).mp c_21
        exact ⟨rfl, by unfold refN; rw [if_pos h4, if_pos ⟨h2, h3⟩]; rfl, rfl⟩
set_option maxHeartbeats 4000000 in
set_option maxRecDepth 100000 in
theorem k_X6_goes (l : Launch) (G : wG) {a : Nat} {f : Nat → Int32} {s : mS} {y : Int32} {st : Nat} (hf : hd53 f s) (hok : mOk s) (hy : y = nI st) (hst : st < 5) (hr : refN s st = 0) : Con0 l G yX6_goes cX6_goes 4 none 4 [.ref a, .int y] [(a, aI G 53 f)] (fun r w => r = none ∧ ∃ f9 : Nat → Int32, hd53 f9 (goN s st) ∧ w = [(a, aI G 53 f9)]) := by
  refine Con.mk (by decide +kernel) (Nat.le_of_ble_eq_true rfl) (fun P C Rr => ?_)
  subst hy
  obtain ⟨o1, o2, o3, o4, o5, o6⟩ := hok
  have hpl : f (Int32.toNatClampNeg 1) = nI (s 1) := hf.at (x := 1) (j := 1) rfl (by decide)
  have f3 : hd53 (upd f (Int32.toNatClampNeg 3) (f (Int32.toNatClampNeg 3) + 1)) (updS s 3 (s 3 + 1)) := hf.upd (k := 3) rfl (by decide) (by rw [hf.at (x := 3) (j := 3) rfl (by decide), nI_1])
  refine st_aload_n C (dk DX6_goes_0 0 rfl) rfl ?_
  refine st_iconst C (v := 1) (dk DX6_goes_0 1 rfl) (by decide) ?_
  refine st_iald C (dk DX6_goes_0 2 rfl) 0 rfl (vp_nI (show (1 : Int32) = nI 1 from rfl) (by decide) (by decide)) ?_
  rw [hpl]
  refine st_istore_n C (dk DX6_goes_0 3 rfl) (by decide) rfl ?_
  refine st_aload_n C (dk DX6_goes_0 4 rfl) rfl ?_
  refine st_iconst C (v := 3) (dk DX6_goes_0 5 rfl) (by decide) ?_
  refine st_dup2 C (dk DX6_goes_0 6 rfl) rfl rfl ?_
  refine st_iald C (dk DX6_goes_0 7 rfl) 0 rfl (vp_nI (show (3 : Int32) = nI 3 from rfl) (by decide) (by decide)) ?_
  refine st_iconst C (v := 1) (dk DX6_goes_0 8 rfl) (by decide) ?_
  refine st_iadd C (dk DX6_goes_0 9 rfl) ?_
  refine st_iast C (dk DX6_goes_0 10 rfl) 0 rfl (vp_nI (show (3 : Int32) = nI 3 from rfl) (by decide) (by decide)) ?_
  generalize upd f (Int32.toNatClampNeg 3) (f (Int32.toNatClampNeg 3) + 1) = g3 at f3 ⊢
  refine st_iload_n C (dk DX6_goes_0 11 rfl) rfl ?_
  refine st_iconst C (v := 4) (dk DX6_goes_0 12 rfl) (by decide) ?_
  refine st_icmp_ne C (tgt := 46) (dk DX6_goes_0 13 rfl) (by decide) (fun c_13 => ?_) (fun c_13 => ?_)
  · have h4 : ¬ st = 4 := fun h => c_13 (by rw [h]; rfl)
    obtain ⟨nx, hl⟩ : ∃ nx, ldN s (s 1) st = some nx := by
      cases h : ldN s (s 1) st with
      | none => unfold refN at hr; rw [if_neg h4, h] at hr; exact absurd hr Nat.one_ne_zero
      | some nx => exact ⟨nx, rfl⟩
    have hw5 := wy5 s o5 hl (by omega)
    have hcg : ∀ j, 22 ≤ j → updS s 3 (s 3 + 1) j = s j := fun j hj => updS_n _ _ (by omega)
    have e5 : g3 (Int32.toNatClampNeg 5) = nI (s 5) := by rw [f3.at (x := 5) (j := 5) rfl (by decide), updS_n _ _ (by decide)]
    refine st_aload_n C (dk DX6_goes_1 0 rfl) rfl ?_
    refine st_iconst C (v := 5) (dk DX6_goes_1 1 rfl) (by decide) ?_
    refine st_dup2 C (dk DX6_goes_1 2 rfl) rfl rfl ?_
    refine st_iald C (dk DX6_goes_1 3 rfl) 0 rfl (vp_nI (show (5 : Int32) = nI 5 from rfl) (by decide) (by decide)) ?_
    refine st_aload_n C (dk DX6_goes_1 4 rfl) rfl ?_
    refine st_iload_n C (dk DX6_goes_1 5 rfl) rfl ?_
    refine st_iload_n C (dk DX6_goes_1 6 rfl) rfl ?_
    refine st_cS C (k_X6_lockOn l G f3 rfl o3 rfl hst (gM_cases hl (by omega)).1) mf_X6_lockOn ms_X6_lockOn ml_RX6_78 (dk DX6_goes_1 7 rfl) [0] rfl rfl rfl rfl (Nat.le_of_ble_eq_true rfl) ⟨Nat.le_of_ble_eq_true rfl, Nat.le_of_ble_eq_true rfl⟩ ⟨Nat.zero_le _, Nat.zero_le _⟩ (fun r9 w9 hq9 => ?_)
    obtain ⟨rfl, rfl⟩ := hq9
    refine st_if_le C (tgt := 63) (dk DX6_goes_1 8 rfl) (by decide) (fun c_56 => ?_) (fun c_56 => ?_)
    · refine st_iconst C (v := 0) (dk DX6_goes_1 11 rfl) (by decide) ?_
      refine st_iadd C (dk DX6_goes_1 12 rfl) ?_
      refine st_iast C (dk DX6_goes_1 13 rfl) 0 rfl (vp_nI (show (5 : Int32) = nI 5 from rfl) (by decide) (by decide)) ?_
      have f6 : hd53 (upd g3 (Int32.toNatClampNeg 5) (g3 (Int32.toNatClampNeg 5) + 0)) (updS (updS s 3 (s 3 + 1)) 5 (s 5 + (if 0 < wyN s (s 1) st then 1 else 0))) := f3.upd (k := 5) rfl (by decide) (by rw [e5, show (0 : Int32) = nI 0 from rfl, nI_add, if_neg (by rw [wyN_congr hcg] at c_56; have := (le0_nI (by omega)).mp c_56; omega)])
      generalize upd g3 (Int32.toNatClampNeg 5) (g3 (Int32.toNatClampNeg 5) + 0) = g6 at f6 ⊢
      have hcg6 : ∀ j, 22 ≤ j → updS (updS s 3 (s 3 + 1)) 5 (s 5 + (if 0 < wyN s (s 1) st then 1 else 0)) j = s j := fun j hj => by rw [updS_n _ _ (by omega), updS_n _ _ (by omega)]
      have e0 : updS (updS s 3 (s 3 + 1)) 5 (s 5 + (if 0 < wyN s (s 1) st then 1 else 0)) 0 = s 0 := by rw [updS_n _ _ (by omega), updS_n _ _ (by omega)]
      refine st_aload_n C (dk DX6_goes_1 14 rfl) rfl ?_
      refine st_iconst C (v := 1) (dk DX6_goes_1 15 rfl) (by decide) ?_
      refine st_aload_n C (dk DX6_goes_1 16 rfl) rfl ?_
      refine st_iload_n C (dk DX6_goes_1 17 rfl) rfl ?_
      refine st_iload_n C (dk DX6_goes_1 18 rfl) rfl ?_
      refine st_cS C (k_X6_leads l G f6 (by rw [e0]; exact o1) (by rw [e0]; exact o2) (fun j hj => by rw [hcg6 _ (by omega)]; exact o6 j hj) rfl o3 rfl (st := st) (by omega)) mf_X6_leads ms_X6_leads ml_RX6_74 (dk DX6_goes_1 19 rfl) [0] rfl rfl rfl rfl (Nat.le_of_ble_eq_true rfl) ⟨Nat.le_of_ble_eq_true rfl, Nat.le_of_ble_eq_true rfl⟩ ⟨Nat.zero_le _, Nat.zero_le _⟩ (fun r9 w9 hq9 => ?_)
      obtain ⟨rfl, rfl⟩ := hq9
      refine st_iast C (dk DX6_goes_1 20 rfl) 0 rfl (vp_nI (show (1 : Int32) = nI 1 from rfl) (by decide) (by decide)) ?_
      exact Rr 0 0 _ _ _ _ _ _ (Nat.zero_le _) (Nat.zero_le _) (dk DX6_goes_1 21 rfl) (.inl ⟨rfl, rfl, rfl, rfl⟩) rfl ⟨rfl, ⟨rfl, _, by unfold goN; rw [if_neg h4, hl]; exact f6.upd (k := 1) rfl (by decide) (by rw [ldN_congr e0 hcg6, hl]; rfl), rfl⟩⟩
    · refine st_iconst C (v := 1) (dk DX6_goes_1 9 rfl) (by decide) ?_
      refine st_goto C (tgt := 64) (dk DX6_goes_1 10 rfl) (by decide) ?_
      refine st_iadd C (dk DX6_goes_1 12 rfl) ?_
      refine st_iast C (dk DX6_goes_1 13 rfl) 0 rfl (vp_nI (show (5 : Int32) = nI 5 from rfl) (by decide) (by decide)) ?_
      have f6 : hd53 (upd g3 (Int32.toNatClampNeg 5) (g3 (Int32.toNatClampNeg 5) + 1)) (updS (updS s 3 (s 3 + 1)) 5 (s 5 + (if 0 < wyN s (s 1) st then 1 else 0))) := f3.upd (k := 5) rfl (by decide) (by rw [e5, nI_1, if_pos (by rw [wyN_congr hcg] at c_56; have := mt (le0_nI (by omega)).mpr c_56; omega)])
      generalize upd g3 (Int32.toNatClampNeg 5) (g3 (Int32.toNatClampNeg 5) + 1) = g6 at f6 ⊢
      have hcg6 : ∀ j, 22 ≤ j → updS (updS s 3 (s 3 + 1)) 5 (s 5 + (if 0 < wyN s (s 1) st then 1 else 0)) j = s j := fun j hj => by rw [updS_n _ _ (by omega), updS_n _ _ (by omega)]
      have e0 : updS (updS s 3 (s 3 + 1)) 5 (s 5 + (if 0 < wyN s (s 1) st then 1 else 0)) 0 = s 0 := by rw [updS_n _ _ (by omega), updS_n _ _ (by omega)]
      refine st_aload_n C (dk DX6_goes_1 14 rfl) rfl ?_
      refine st_iconst C (v := 1) (dk DX6_goes_1 15 rfl) (by decide) ?_
      refine st_aload_n C (dk DX6_goes_1 16 rfl) rfl ?_
      refine st_iload_n C (dk DX6_goes_1 17 rfl) rfl ?_
      refine st_iload_n C (dk DX6_goes_1 18 rfl) rfl ?_
      refine st_cS C (k_X6_leads l G f6 (by rw [e0]; exact o1) (by rw [e0]; exact o2) (fun j hj => by rw [hcg6 _ (by omega)]; exact o6 j hj) rfl o3 rfl (st := st) (by omega)) mf_X6_leads ms_X6_leads ml_RX6_74 (dk DX6_goes_1 19 rfl) [0] rfl rfl rfl rfl (Nat.le_of_ble_eq_true rfl) ⟨Nat.le_of_ble_eq_true rfl, Nat.le_of_ble_eq_true rfl⟩ ⟨Nat.zero_le _, Nat.zero_le _⟩ (fun r9 w9 hq9 => ?_)
      obtain ⟨rfl, rfl⟩ := hq9
      refine st_iast C (dk DX6_goes_1 20 rfl) 0 rfl (vp_nI (show (1 : Int32) = nI 1 from rfl) (by decide) (by decide)) ?_
      exact Rr 0 0 _ _ _ _ _ _ (Nat.zero_le _) (Nat.zero_le _) (dk DX6_goes_1 21 rfl) (.inl ⟨rfl, rfl, rfl, rfl⟩) rfl ⟨rfl, ⟨rfl, _, by unfold goN; rw [if_neg h4, hl]; exact f6.upd (k := 1) rfl (by decide) (by rw [ldN_congr e0 hcg6, hl]; rfl), rfl⟩⟩
  · have h4 : st = 4 := (eq_nI (a := st) (i := 4) (by omega) (by decide) rfl rfl).mp c_13
    have v2 : g3 (Int32.toNatClampNeg 2) = nI (s 2) := by rw [f3.at (x := 2) (j := 2) rfl (by decide), updS_n _ _ (by decide)]
    have v6 : g3 ((6 : Int32) + nI (s 1)).toNatClampNeg = nI (s (6 + s 1)) := by rw [f3.at (nadd 6 (s 1) (x := 6) rfl) (by omega), updS_n _ _ (by omega)]
    have f4 : hd53 (upd g3 (Int32.toNatClampNeg 2) (g3 ((6 : Int32) + nI (s 1)).toNatClampNeg)) (updS (updS s 3 (s 3 + 1)) 2 (s (6 + s 1))) := f3.upd (k := 2) rfl (by decide) v6
    refine st_aload_n C (dk DX6_goes_0 14 rfl) rfl ?_
    refine st_iconst C (v := 2) (dk DX6_goes_0 15 rfl) (by decide) ?_
    refine st_iald C (dk DX6_goes_0 16 rfl) 0 rfl (vp_nI (show (2 : Int32) = nI 2 from rfl) (by decide) (by decide)) ?_
    refine st_istore_n C (dk DX6_goes_0 17 rfl) (by decide) rfl ?_
    refine st_aload_n C (dk DX6_goes_0 18 rfl) rfl ?_
    refine st_iconst C (v := 2) (dk DX6_goes_0 19 rfl) (by decide) ?_
    refine st_aload_n C (dk DX6_goes_0 20 rfl) rfl ?_
    refine st_bipush C (v := 6) (dk DX6_goes_0 21 rfl) (by decide) ?_
    refine st_iload_n C (dk DX6_goes_0 22 rfl) rfl ?_
    refine st_iadd C (dk DX6_goes_0 23 rfl) ?_
    refine st_iald C (dk DX6_goes_0 24 rfl) 0 rfl (vpA (k := 6) rfl (by omega) (by decide)) ?_
    refine st_iast C (dk DX6_goes_0 25 rfl) 0 rfl (vp_nI (show (2 : Int32) = nI 2 from rfl) (by decide) (by decide)) ?_
    generalize upd g3 (Int32.toNatClampNeg 2) (g3 ((6 : Int32) + nI (s 1)).toNatClampNeg) = g4 at f4 ⊢
    have f5 : hd53 (upd g4 ((6 : Int32) + nI (s 1)).toNatClampNeg (g3 (Int32.toNatClampNeg 2))) (updS (updS (updS s 3 (s 3 + 1)) 2 (s (6 + s 1))) (6 + s 1) (s 2)) := f4.upd (nadd 6 (s 1) (x := 6) rfl) (by omega) v2
    refine st_aload_n C (dk DX6_goes_0 26 rfl) rfl ?_
    refine st_bipush C (v := 6) (dk DX6_goes_0 27 rfl) (by decide) ?_
    refine st_iload_n C (dk DX6_goes_0 28 rfl) rfl ?_
    refine st_iadd C (dk DX6_goes_0 29 rfl) ?_
    refine st_iload_n C (dk DX6_goes_0 30 rfl) rfl ?_
    refine st_iast C (dk DX6_goes_0 31 rfl) 0 rfl (vpA (k := 6) rfl (by omega) (by decide)) ?_
    generalize upd g4 ((6 : Int32) + nI (s 1)).toNatClampNeg (g3 (Int32.toNatClampNeg 2)) = g5 at f5 ⊢
    have e4 : updS (updS (updS s 3 (s 3 + 1)) 2 (s (6 + s 1))) (6 + s 1) (s 2) 4 = s 4 := by rw [updS_n _ _ (by omega), updS_n _ _ (by omega), updS_n _ _ (by omega)]
    refine st_aload_n C (dk DX6_goes_0 32 rfl) rfl ?_
    refine st_iconst C (v := 4) (dk DX6_goes_0 33 rfl) (by decide) ?_
    refine st_dup2 C (dk DX6_goes_0 34 rfl) rfl rfl ?_
    refine st_iald C (dk DX6_goes_0 35 rfl) 0 rfl (vp_nI (show (4 : Int32) = nI 4 from rfl) (by decide) (by decide)) ?_
    refine st_iconst C (v := 1) (dk DX6_goes_0 36 rfl) (by decide) ?_
    refine st_iadd C (dk DX6_goes_0 37 rfl) ?_
    refine st_iast C (dk DX6_goes_0 38 rfl) 0 rfl (vp_nI (show (4 : Int32) = nI 4 from rfl) (by decide) (by decide)) ?_
    refine st_goto C (tgt := 75) (dk DX6_goes_0 39 rfl) (by decide) ?_
    exact Rr 0 0 _ _ _ _ _ _ (Nat.zero_le _) (Nat.zero_le _) (dk DX6_goes_1 21 rfl) (.inl ⟨rfl, rfl, rfl, rfl⟩) rfl ⟨rfl, ⟨rfl, _, by unfold goN; rw [if_pos h4, ← e4]; exact f5.upd (k := 4) rfl (by decide) (by rw [f5.at (x := 4) (j := 4) rfl (by decide), nI_1]), rfl⟩⟩
