/-! contracts of Math.max, Math.min, and of the search but its run -/
section Mx
variable {l : Launch} {G : wG} {own : String} {cc : ByteArray} {nL : Nat} {nm : String} {R : Room} {P : PT} {k n pc : Nat} {lv : List (Nat × Value)} {st : List Value} {ws : va_W}
theorem st_max (C : Cx l G own cc nL nm R P) {idx : Nat} {x y : Int32} (hd : decode cc pc = .ok (.invokestatic idx, 3)) (hl : Cond.methodLink own idx yJM_max ∈ WS) (hW : (st.map fun v => v.category).sum ≤ 8) (hR : 1 ≤ R.frames ∧ 21 ≤ R.locals) (hroom : k ≤ R.cells ∧ n ≤ R.slots) (kk : P k n (pc + 3) lv (.int (rMax x y) :: st) ws) : P k n pc lv (.int y :: .int x :: st) ws := by
  obtain ⟨p, e, s, m, args, below, meth, c, A, Q, ⟨hx, hb, hml, hnm, hown, hts, hK, hA⟩, rfl⟩ := C
  intro H locs ls hP hD hS hl9
  exact va_mmax hx hb (hml.trans hl9.1.symm) hown (hts _ hl) (hts _ ms_JM_max) (hts _ mf_JM_max.2.1) (hts _ mf_JM_max.1) hR.1 (by have := hR.2; omega) hroom.1 hroom.2 hd (kk H locs ls hP hD hS hl9)
theorem st_min (C : Cx l G own cc nL nm R P) {idx : Nat} {x y : Int32} (hd : decode cc pc = .ok (.invokestatic idx, 3)) (hl : Cond.methodLink own idx yJM_min ∈ WS) (hW : (st.map fun v => v.category).sum ≤ 8) (hR : 1 ≤ R.frames ∧ 21 ≤ R.locals) (hroom : k ≤ R.cells ∧ n ≤ R.slots) (kk : P k n (pc + 3) lv (.int (rMin x y) :: st) ws) : P k n pc lv (.int y :: .int x :: st) ws := by
  obtain ⟨p, e, s, m, args, below, meth, c, A, Q, ⟨hx, hb, hml, hnm, hown, hts, hK, hA⟩, rfl⟩ := C
  intro H locs ls hP hD hS hl9
  exact va_mmin hx hb (hml.trans hl9.1.symm) hown (hts _ hl) (hts _ ms_JM_min) (hts _ mf_JM_min.2.1) (hts _ mf_JM_min.1) hR.1 (by have := hR.2; omega) hroom.1 hroom.2 hd (kk H locs ls hP hD hS hl9)
end Mx
set_option maxHeartbeats 4000000 in
set_option maxRecDepth 100000 in
theorem k_X3_codeOf (l : Launch) (G : wG) {a : Int32} : Con0 l G yX3_codeOf cX3_codeOf 1 (some .int) 0 [.int a] [] (fun r w => r = some (.int (rCde a)) ∧ w = []) := by
  refine Con.mk (by decide +kernel) (Nat.le_of_ble_eq_true rfl) (fun P C Rr => ?_)
  refine st_iload_n C (dk DX3_codeOf_0 0 rfl) rfl ?_
  refine st_sipush C (v := 16383) (dk DX3_codeOf_0 1 rfl) (by decide) ?_
  refine st_iand C (dk DX3_codeOf_0 2 rfl) ?_
  exact Rr 0 0 _ _ _ _ _ _ (Nat.zero_le _) (Nat.zero_le _) (dk DX3_codeOf_0 3 rfl) (.inr (.inl ⟨_, rfl, rfl, rfl, rfl⟩)) rfl ⟨rfl, ⟨rfl, rfl⟩⟩
set_option maxHeartbeats 4000000 in
set_option maxRecDepth 100000 in
theorem k_X3_stepOf (l : Launch) (G : wG) {a : Int32} : Con0 l G yX3_stepOf cX3_stepOf 1 (some .int) 0 [.int a] [] (fun r w => r = some (.int (rStp a)) ∧ w = []) := by
  refine Con.mk (by decide +kernel) (Nat.le_of_ble_eq_true rfl) (fun P C Rr => ?_)
  refine st_iload_n C (dk DX3_stepOf_0 0 rfl) rfl ?_
  refine st_bipush C (v := 14) (dk DX3_stepOf_0 1 rfl) (by decide) ?_
  refine st_ishr C (dk DX3_stepOf_0 2 rfl) ?_
  refine st_bipush C (v := 7) (dk DX3_stepOf_0 3 rfl) (by decide) ?_
  refine st_iand C (dk DX3_stepOf_0 4 rfl) ?_
  exact Rr 0 0 _ _ _ _ _ _ (Nat.zero_le _) (Nat.zero_le _) (dk DX3_stepOf_0 5 rfl) (.inr (.inl ⟨_, rfl, rfl, rfl, rfl⟩)) rfl ⟨rfl, ⟨rfl, rfl⟩⟩
set_option maxHeartbeats 4000000 in
set_option maxRecDepth 100000 in
theorem k_X3_beforeOf (l : Launch) (G : wG) {a : Int32} : Con0 l G yX3_beforeOf cX3_beforeOf 1 (some .int) 0 [.int a] [] (fun r w => r = some (.int (rBef a)) ∧ w = []) := by
  refine Con.mk (by decide +kernel) (Nat.le_of_ble_eq_true rfl) (fun P C Rr => ?_)
  refine st_iload_n C (dk DX3_beforeOf_0 0 rfl) rfl ?_
  refine st_bipush C (v := 17) (dk DX3_beforeOf_0 1 rfl) (by decide) ?_
  refine st_ishr C (dk DX3_beforeOf_0 2 rfl) ?_
  exact Rr 0 0 _ _ _ _ _ _ (Nat.zero_le _) (Nat.zero_le _) (dk DX3_beforeOf_0 3 rfl) (.inr (.inl ⟨_, rfl, rfl, rfl, rfl⟩)) rfl ⟨rfl, ⟨rfl, rfl⟩⟩
set_option maxHeartbeats 4000000 in
set_option maxRecDepth 100000 in
theorem k_X3_lengthTo (l : Launch) (G : wG) {t t1 t2 t3 t4 : Nat} {sz rc : Int32} {ln : Nat → Int32} {c : Int32} : Con0 l G yX3_lengthTo cX3_lengthTo 2 (some .int) 1 [.ref t, .int c] [(t, ob 2 (sF t1 t2 t3 t4 sz rc)), (t4, aI G 16 ln)] (fun r w => r = some (.int (rLen ln c)) ∧ w = [(t, ob 2 (sF t1 t2 t3 t4 sz rc)), (t4, aI G 16 ln)]) := by
  refine Con.mk (by decide +kernel) (Nat.le_of_ble_eq_true rfl) (fun P C Rr => ?_)
  refine st_iload_n C (dk DX3_lengthTo_0 0 rfl) rfl ?_
  refine st_cS C (k_X5_isCell l G) mf_X5_isCell ms_X5_isCell ml_RX3_57 (dk DX3_lengthTo_0 1 rfl) [] rfl rfl rfl rfl (Nat.le_of_ble_eq_true rfl) ⟨Nat.le_of_ble_eq_true rfl, Nat.le_of_ble_eq_true rfl⟩ ⟨Nat.zero_le _, Nat.zero_le _⟩ (fun r9 w9 hq9 => ?_)
  obtain ⟨rfl, rfl⟩ := hq9
  refine st_if_eq C (tgt := 16) (dk DX3_lengthTo_0 2 rfl) (by decide) (fun c_4 => ?_) (fun c_4 => ?_)
  · refine st_iconst C (v := -1) (dk DX3_lengthTo_0 8 rfl) (by decide) ?_
    exact Rr 0 0 _ _ _ _ _ _ (Nat.zero_le _) (Nat.zero_le _) (dk DX3_lengthTo_0 9 rfl) (.inr (.inl ⟨_, rfl, rfl, rfl, rfl⟩)) rfl ⟨rfl, ⟨by first | (simp [c_4, rLen]; done) | (simp_all [rLen]; done), rfl⟩⟩
  · refine st_aload_n C (dk DX3_lengthTo_0 3 rfl) rfl ?_
    refine st_get C fl_RX3_24 (dk DX3_lengthTo_0 4 rfl) 0 rfl rfl ?_
    refine st_iload_n C (dk DX3_lengthTo_0 5 rfl) rfl ?_
    refine st_iald C (dk DX3_lengthTo_0 6 rfl) 1 rfl (rIn_vp (by decide) (by decide) c_4) ?_
    refine st_goto C (tgt := 17) (dk DX3_lengthTo_0 7 rfl) (by decide) ?_
    exact Rr 0 0 _ _ _ _ _ _ (Nat.zero_le _) (Nat.zero_le _) (dk DX3_lengthTo_0 9 rfl) (.inr (.inl ⟨_, rfl, rfl, rfl, rfl⟩)) rfl ⟨rfl, ⟨by first | (simp [c_4, rLen]; done) | (simp_all [rLen]; done), rfl⟩⟩
set_option maxHeartbeats 4000000 in
set_option maxRecDepth 100000 in
theorem k_X3_entryAt (l : Launch) (G : wG) {t t1 t2 t3 t4 : Nat} {sz rc : Int32} {en : Nat → Int32} {i : Int32} : Con0 l G yX3_entryAt cX3_entryAt 2 (some .int) 0 [.ref t, .int i] [(t, ob 2 (sF t1 t2 t3 t4 sz rc)), (t1, aI G 4624 en)] (fun r w => r = some (.int (rEnt en i)) ∧ w = [(t, ob 2 (sF t1 t2 t3 t4 sz rc)), (t1, aI G 4624 en)]) := by
  refine Con.mk (by decide +kernel) (Nat.le_of_ble_eq_true rfl) (fun P C Rr => ?_)
  refine st_iload_n C (dk DX3_entryAt_0 0 rfl) rfl ?_
  refine st_if_lt C (tgt := 20) (dk DX3_entryAt_0 1 rfl) (by decide) (fun c_1 => ?_) (fun c_1 => ?_)
  · refine st_iconst C (v := 0) (dk DX3_entryAt_0 10 rfl) (by decide) ?_
    exact Rr 0 0 _ _ _ _ _ _ (Nat.zero_le _) (Nat.zero_le _) (dk DX3_entryAt_0 11 rfl) (.inr (.inl ⟨_, rfl, rfl, rfl, rfl⟩)) rfl ⟨rfl, ⟨by first | (simp [c_1, rEnt]; done) | (simp_all [rEnt]; done), rfl⟩⟩
  · refine st_iload_n C (dk DX3_entryAt_0 2 rfl) rfl ?_
    refine st_sipush C (v := 4624) (dk DX3_entryAt_0 3 rfl) (by decide) ?_
    refine st_icmp_ge C (tgt := 20) (dk DX3_entryAt_0 4 rfl) (by decide) (fun c_8 => ?_) (fun c_8 => ?_)
    · refine st_iconst C (v := 0) (dk DX3_entryAt_0 10 rfl) (by decide) ?_
      exact Rr 0 0 _ _ _ _ _ _ (Nat.zero_le _) (Nat.zero_le _) (dk DX3_entryAt_0 11 rfl) (.inr (.inl ⟨_, rfl, rfl, rfl, rfl⟩)) rfl ⟨rfl, ⟨by first | (simp [c_1, c_8, rEnt]; done) | (simp_all [rEnt]; done), rfl⟩⟩
    · refine st_aload_n C (dk DX3_entryAt_0 5 rfl) rfl ?_
      refine st_get C fl_RX3_11 (dk DX3_entryAt_0 6 rfl) 0 rfl rfl ?_
      refine st_iload_n C (dk DX3_entryAt_0 7 rfl) rfl ?_
      refine st_iald C (dk DX3_entryAt_0 8 rfl) 1 rfl (vp_of (by decide) (by decide) c_1 c_8) ?_
      refine st_goto C (tgt := 21) (dk DX3_entryAt_0 9 rfl) (by decide) ?_
      exact Rr 0 0 _ _ _ _ _ _ (Nat.zero_le _) (Nat.zero_le _) (dk DX3_entryAt_0 11 rfl) (.inr (.inl ⟨_, rfl, rfl, rfl, rfl⟩)) rfl ⟨rfl, ⟨by first | (simp [c_1, c_8, rEnt]; done) | (simp_all [rEnt]; done), rfl⟩⟩
set_option maxHeartbeats 4000000 in
set_option maxRecDepth 100000 in
theorem k_X3_add (l : Launch) (G : wG) {t t1 t2 t3 t4 : Nat} {sz rc : Int32} {en : Nat → Int32} {sn : Nat → Int64} {nd ln : Nat → Int32} {c s b k9 : Int32} (hsz : ¬ sz < 0) : Con0 l G yX3_add cX3_add 9 none 1 [.ref t, .int c, .int s, .int b, .int k9] [(t, ob 2 (sF t1 t2 t3 t4 sz rc)), (t1, aI G 4624 en), (t2, aJ G 256 sn), (t3, aI G 16 nd), (t4, aI G 16 ln)] (fun r w => r = none ∧ w = rAdd G t t1 t2 t3 t4 sz rc en sn nd ln c s b k9) := by
  refine Con.mk (by decide +kernel) (Nat.le_of_ble_eq_true rfl) (fun P C Rr => ?_)
  refine st_iload_n C (dk DX3_add_0 0 rfl) rfl ?_
  refine st_bipush C (v := 6) (dk DX3_add_0 1 rfl) (by decide) ?_
  refine st_ishr C (dk DX3_add_0 2 rfl) ?_
  refine st_sipush C (v := 255) (dk DX3_add_0 3 rfl) (by decide) ?_
  refine st_iand C (dk DX3_add_0 4 rfl) ?_
  refine st_istore C (dk DX3_add_0 5 rfl) (by decide) rfl ?_
  refine st_lconst C (v := 1) (dk DX3_add_0 6 rfl) (by decide) ?_
  refine st_iload_n C (dk DX3_add_0 7 rfl) rfl ?_
  refine st_bipush C (v := 63) (dk DX3_add_0 8 rfl) (by decide) ?_
  refine st_iand C (dk DX3_add_0 9 rfl) ?_
  refine st_lshl C (dk DX3_add_0 10 rfl) ?_
  refine st_lstore C (dk DX3_add_0 11 rfl) (by decide) rfl rfl ?_
  refine st_aload_n C (dk DX3_add_0 12 rfl) rfl ?_
  refine st_get C fl_RX3_17 (dk DX3_add_0 13 rfl) 0 rfl rfl ?_
  refine st_iload C (dk DX3_add_0 14 rfl) rfl ?_
  refine st_lald C (dk DX3_add_0 15 rfl) 2 rfl (vp_small 8 (by decide) (by decide)) ?_
  refine st_lload C (dk DX3_add_0 16 rfl) rfl ?_
  refine st_land C (dk DX3_add_0 17 rfl) ?_
  refine st_lconst C (v := 0) (dk DX3_add_0 18 rfl) (by decide) ?_
  refine st_lcmp C (dk DX3_add_0 19 rfl) ?_
  refine st_if_ne C (tgt := 43) (dk DX3_add_0 20 rfl) (by decide) (fun c_30 => ?_) (fun c_30 => ?_)
  · refine Rr 0 0 _ _ _ _ _ _ (Nat.zero_le _) (Nat.zero_le _) (dk DX3_add_0 25 rfl) (.inl ⟨rfl, rfl, rfl, rfl⟩) rfl ?_
    refine ⟨rfl, rfl, ?_⟩
    have d30 : ¬ lg_cmp (sn (rRow c).toNatClampNeg &&& rBit c) 0 = 0 := c_30
    rw [rAdd, if_neg d30]
    rfl
  · refine st_aload_n C (dk DX3_add_0 21 rfl) rfl ?_
    refine st_get C fl_RX3_40 (dk DX3_add_0 22 rfl) 0 rfl rfl ?_
    refine st_sipush C (v := 4624) (dk DX3_add_0 23 rfl) (by decide) ?_
    refine st_icmp_lt C (tgt := 44) (dk DX3_add_0 24 rfl) (by decide) (fun c_40 => ?_) (fun c_40 => ?_)
    · refine st_aload_n C (dk DX3_add_0 26 rfl) rfl ?_
      refine st_get C fl_RX3_17 (dk DX3_add_0 27 rfl) 0 rfl rfl ?_
      refine st_iload C (dk DX3_add_0 28 rfl) rfl ?_
      refine st_dup2 C (dk DX3_add_0 29 rfl) rfl rfl ?_
      refine st_lald C (dk DX3_add_0 30 rfl) 2 rfl (vp_small 8 (by decide) (by decide)) ?_
      refine st_lload C (dk DX3_add_0 31 rfl) rfl ?_
      refine st_lor C (dk DX3_add_0 32 rfl) ?_
      refine st_last C (dk DX3_add_0 33 rfl) 2 rfl (vp_small 8 (by decide) (by decide)) ?_
      refine st_aload_n C (dk DX3_add_0 34 rfl) rfl ?_
      refine st_get C fl_RX3_11 (dk DX3_add_0 35 rfl) 0 rfl rfl ?_
      refine st_aload_n C (dk DX3_add_0 36 rfl) rfl ?_
      refine st_get C fl_RX3_40 (dk DX3_add_0 37 rfl) 0 rfl rfl ?_
      refine st_iload_n C (dk DX3_add_0 38 rfl) rfl ?_
      refine st_iload_n C (dk DX3_add_0 39 rfl) rfl ?_
      refine st_bipush C (v := 14) (dk DX3_add_1 0 rfl) (by decide) ?_
      refine st_ishl C (dk DX3_add_1 1 rfl) ?_
      refine st_ior C (dk DX3_add_1 2 rfl) ?_
      refine st_iload_n C (dk DX3_add_1 3 rfl) rfl ?_
      refine st_bipush C (v := 17) (dk DX3_add_1 4 rfl) (by decide) ?_
      refine st_ishl C (dk DX3_add_1 5 rfl) ?_
      refine st_ior C (dk DX3_add_1 6 rfl) ?_
      refine st_iast C (dk DX3_add_1 7 rfl) 1 rfl (vp_ofN (by decide) (by decide) hsz c_40) ?_
      refine st_iload_n C (dk DX3_add_1 8 rfl) rfl ?_
      refine st_cS C (k_X0_cellOf l G) mf_X0_cellOf ms_X0_cellOf ml_RX3_54 (dk DX3_add_1 9 rfl) [] rfl rfl rfl rfl (Nat.le_of_ble_eq_true rfl) ⟨Nat.le_of_ble_eq_true rfl, Nat.le_of_ble_eq_true rfl⟩ ⟨Nat.zero_le _, Nat.zero_le _⟩ (fun r9 w9 hq9 => ?_)
      obtain ⟨rfl, rfl⟩ := hq9
      refine st_istore C (dk DX3_add_1 10 rfl) (by decide) rfl ?_
      refine st_aload_n C (dk DX3_add_1 11 rfl) rfl ?_
      refine st_get C fl_RX3_24 (dk DX3_add_1 12 rfl) 0 rfl rfl ?_
      refine st_iload C (dk DX3_add_1 13 rfl) rfl ?_
      refine st_iald C (dk DX3_add_1 14 rfl) 4 rfl (vp_small 4 (by decide) (by decide)) ?_
      refine st_iconst C (v := -1) (dk DX3_add_1 15 rfl) (by decide) ?_
      refine st_icmp_ne C (tgt := 123) (dk DX3_add_1 16 rfl) (by decide) (fun c_90 => ?_) (fun c_90 => ?_)
      · refine st_aload_n C (dk DX3_add_1 34 rfl) rfl ?_
        refine st_dup C (dk DX3_add_1 35 rfl) rfl ?_
        refine st_get C fl_RX3_40 (dk DX3_add_1 36 rfl) 0 rfl rfl ?_
        refine st_iconst C (v := 1) (dk DX3_add_1 37 rfl) (by decide) ?_
        refine st_iadd C (dk DX3_add_1 38 rfl) ?_
        refine st_put C fl_RX3_40 fc_2 fw_2_4 (dk DX3_add_1 39 rfl) 0 rfl rfl rfl (Nat.le_of_ble_eq_true rfl) ?_
        refine Rr 0 0 _ _ _ _ _ _ (Nat.zero_le _) (Nat.zero_le _) (dk DX3_add_2 0 rfl) (.inl ⟨rfl, rfl, rfl, rfl⟩) rfl ?_
        refine ⟨rfl, rfl, ?_⟩
        have d30 : lg_cmp (sn (rRow c).toNatClampNeg &&& rBit c) 0 = 0 := c_30
        have d90 : ¬ ln (rCell c).toNatClampNeg = -1 := c_90
        rw [rAdd, if_pos d30, if_pos c_40, if_neg d90]
        rfl
      · refine st_aload_n C (dk DX3_add_1 17 rfl) rfl ?_
        refine st_get C fl_RX3_24 (dk DX3_add_1 18 rfl) 0 rfl rfl ?_
        refine st_iload C (dk DX3_add_1 19 rfl) rfl ?_
        refine st_iload C (dk DX3_add_1 20 rfl) rfl ?_
        refine st_iast C (dk DX3_add_1 21 rfl) 4 rfl (vp_small 4 (by decide) (by decide)) ?_
        refine st_aload_n C (dk DX3_add_1 22 rfl) rfl ?_
        refine st_get C fl_RX3_21 (dk DX3_add_1 23 rfl) 0 rfl rfl ?_
        refine st_iload C (dk DX3_add_1 24 rfl) rfl ?_
        refine st_aload_n C (dk DX3_add_1 25 rfl) rfl ?_
        refine st_get C fl_RX3_40 (dk DX3_add_1 26 rfl) 0 rfl rfl ?_
        refine st_iast C (dk DX3_add_1 27 rfl) 3 rfl (vp_small 4 (by decide) (by decide)) ?_
        refine st_aload_n C (dk DX3_add_1 28 rfl) rfl ?_
        refine st_dup C (dk DX3_add_1 29 rfl) rfl ?_
        refine st_get C fl_RX3_43 (dk DX3_add_1 30 rfl) 0 rfl rfl ?_
        refine st_iconst C (v := 1) (dk DX3_add_1 31 rfl) (by decide) ?_
        refine st_iadd C (dk DX3_add_1 32 rfl) ?_
        refine st_put C fl_RX3_43 fc_2 fw_2_5 (dk DX3_add_1 33 rfl) 0 rfl rfl rfl (Nat.le_of_ble_eq_true rfl) ?_
        refine st_aload_n C (dk DX3_add_1 34 rfl) rfl ?_
        refine st_dup C (dk DX3_add_1 35 rfl) rfl ?_
        refine st_get C fl_RX3_40 (dk DX3_add_1 36 rfl) 0 rfl rfl ?_
        refine st_iconst C (v := 1) (dk DX3_add_1 37 rfl) (by decide) ?_
        refine st_iadd C (dk DX3_add_1 38 rfl) ?_
        refine st_put C fl_RX3_40 fc_2 fw_2_4 (dk DX3_add_1 39 rfl) 0 rfl rfl rfl (Nat.le_of_ble_eq_true rfl) ?_
        refine Rr 0 0 _ _ _ _ _ _ (Nat.zero_le _) (Nat.zero_le _) (dk DX3_add_2 0 rfl) (.inl ⟨rfl, rfl, rfl, rfl⟩) rfl ?_
        refine ⟨rfl, rfl, ?_⟩
        have d30 : lg_cmp (sn (rRow c).toNatClampNeg &&& rBit c) 0 = 0 := c_30
        have d90 : ln (rCell c).toNatClampNeg = -1 := c_90
        rw [rAdd, if_pos d30, if_pos c_40, if_pos d90]
        rfl
    · refine Rr 0 0 _ _ _ _ _ _ (Nat.zero_le _) (Nat.zero_le _) (dk DX3_add_0 25 rfl) (.inl ⟨rfl, rfl, rfl, rfl⟩) rfl ?_
      refine ⟨rfl, rfl, ?_⟩
      have d30 : lg_cmp (sn (rRow c).toNatClampNeg &&& rBit c) 0 = 0 := c_30
      rw [rAdd, if_pos d30, if_neg c_40]
      rfl
set_option maxHeartbeats 4000000 in
set_option maxRecDepth 100000 in
theorem k_X3_mostLength (l : Launch) (G : wG) {t t1 t2 t3 t4 : Nat} {sz rc : Int32} {ln : Nat → Int32} : Con0 l G yX3_mostLength cX3_mostLength 3 (some .int) 1 [.ref t] [(t, ob 2 (sF t1 t2 t3 t4 sz rc)), (t4, aI G 16 ln)] (fun r w => r = some (.int (rMost ln 16)) ∧ w = [(t, ob 2 (sF t1 t2 t3 t4 sz rc)), (t4, aI G 16 ln)]) := by
  refine Con.mk (by decide +kernel) (Nat.le_of_ble_eq_true rfl) (fun P C Rr => ?_)
  have loop : ∀ (m i : Nat) (x : Int32) (acc : Int32), i + m = 16 → x = nI i → acc = rMost ln i → P 0 0 4 [(0, .ref t), (1, .int acc), (2, .int x)] [] [(t, ob 2 (sF t1 t2 t3 t4 sz rc)), (t4, aI G 16 ln)] := by
    intro m
    induction m with
    | zero =>
      intro i x acc hi hx hacc
      obtain rfl : i = 16 := by omega
      refine st_iload_n C (dk DX3_mostLength_0 4 rfl) rfl ?_
      refine st_bipush C (v := 16) (dk DX3_mostLength_0 5 rfl) (by decide) ?_
      refine st_icmp_ge C (tgt := 27) (dk DX3_mostLength_0 6 rfl) (by decide) (fun c_7 => ?_) (fun c_7 => ?_)
      · refine st_iload_n C (dk DX3_mostLength_0 16 rfl) rfl ?_
        exact Rr 0 0 _ _ _ _ _ _ (Nat.zero_le _) (Nat.zero_le _) (dk DX3_mostLength_0 17 rfl) (.inr (.inl ⟨_, rfl, rfl, rfl, rfl⟩)) rfl ⟨rfl, ⟨by rw [hacc], rfl⟩⟩
      · exact absurd ((ge_nI (a := 16) (i := 16) (by decide) (by decide) rfl hx).mpr (Nat.le_refl _)) c_7
    | succ m ih =>
      intro i x acc hi hx hacc
      refine st_iload_n C (dk DX3_mostLength_0 4 rfl) rfl ?_
      refine st_bipush C (v := 16) (dk DX3_mostLength_0 5 rfl) (by decide) ?_
      refine st_icmp_ge C (tgt := 27) (dk DX3_mostLength_0 6 rfl) (by decide) (fun c_7 => ?_) (fun c_7 => ?_)
      · exact absurd ((ge_nI (a := 16) (i := i) (by decide) (by omega) rfl hx).mp c_7) (by omega)
      · refine st_iload_n C (dk DX3_mostLength_0 7 rfl) rfl ?_
        refine st_aload_n C (dk DX3_mostLength_0 8 rfl) rfl ?_
        refine st_get C fl_RX3_24 (dk DX3_mostLength_0 9 rfl) 0 rfl rfl ?_
        refine st_iload_n C (dk DX3_mostLength_0 10 rfl) rfl ?_
        refine st_iald C (dk DX3_mostLength_0 11 rfl) 1 rfl (vp_nI hx (by omega : i < 16) (by decide)) ?_
        refine st_max C (dk DX3_mostLength_0 12 rfl) mk_RX3_70 (Nat.le_of_ble_eq_true rfl) ⟨Nat.le_of_ble_eq_true rfl, Nat.le_of_ble_eq_true rfl⟩ ⟨Nat.zero_le _, Nat.zero_le _⟩ ?_
        refine st_istore_n C (dk DX3_mostLength_0 13 rfl) (by decide) rfl ?_
        refine st_iinc C (dk DX3_mostLength_0 14 rfl) rfl (iadd_ofInt _ (1) (1) (by decide)) (by decide) rfl ?_
        refine st_goto C (tgt := 4) (dk DX3_mostLength_0 15 rfl) (by decide) ?_
        exact ih (i + 1) _ _ (by omega) (up_nI hx) (by rw [cl_nI hx (by omega), hacc]; rfl)
  refine st_iconst C (v := 0) (dk DX3_mostLength_0 0 rfl) (by decide) ?_
  refine st_istore_n C (dk DX3_mostLength_0 1 rfl) (by decide) rfl ?_
  refine st_iconst C (v := 0) (dk DX3_mostLength_0 2 rfl) (by decide) ?_
  refine st_istore_n C (dk DX3_mostLength_0 3 rfl) (by decide) rfl ?_
  exact loop 16 0 _ _ (by omega) (by decide) rfl
set_option maxHeartbeats 4000000 in
set_option maxRecDepth 100000 in
theorem k_X3_sumOfLengths (l : Launch) (G : wG) {t t1 t2 t3 t4 : Nat} {sz rc : Int32} {ln : Nat → Int32} : Con0 l G yX3_sumOfLengths cX3_sumOfLengths 3 (some .int) 1 [.ref t] [(t, ob 2 (sF t1 t2 t3 t4 sz rc)), (t4, aI G 16 ln)] (fun r w => r = some (.int (rSum ln 16)) ∧ w = [(t, ob 2 (sF t1 t2 t3 t4 sz rc)), (t4, aI G 16 ln)]) := by
  refine Con.mk (by decide +kernel) (Nat.le_of_ble_eq_true rfl) (fun P C Rr => ?_)
  have loop : ∀ (m i : Nat) (x : Int32) (acc : Int32), i + m = 16 → x = nI i → acc = rSum ln i → P 0 0 4 [(0, .ref t), (1, .int acc), (2, .int x)] [] [(t, ob 2 (sF t1 t2 t3 t4 sz rc)), (t4, aI G 16 ln)] := by
    intro m
    induction m with
    | zero =>
      intro i x acc hi hx hacc
      obtain rfl : i = 16 := by omega
      refine st_iload_n C (dk DX3_sumOfLengths_0 4 rfl) rfl ?_
      refine st_bipush C (v := 16) (dk DX3_sumOfLengths_0 5 rfl) (by decide) ?_
      refine st_icmp_ge C (tgt := 29) (dk DX3_sumOfLengths_0 6 rfl) (by decide) (fun c_7 => ?_) (fun c_7 => ?_)
      · refine st_iload_n C (dk DX3_sumOfLengths_0 18 rfl) rfl ?_
        exact Rr 0 0 _ _ _ _ _ _ (Nat.zero_le _) (Nat.zero_le _) (dk DX3_sumOfLengths_0 19 rfl) (.inr (.inl ⟨_, rfl, rfl, rfl, rfl⟩)) rfl ⟨rfl, ⟨by rw [hacc], rfl⟩⟩
      · exact absurd ((ge_nI (a := 16) (i := 16) (by decide) (by decide) rfl hx).mpr (Nat.le_refl _)) c_7
    | succ m ih =>
      intro i x acc hi hx hacc
      refine st_iload_n C (dk DX3_sumOfLengths_0 4 rfl) rfl ?_
      refine st_bipush C (v := 16) (dk DX3_sumOfLengths_0 5 rfl) (by decide) ?_
      refine st_icmp_ge C (tgt := 29) (dk DX3_sumOfLengths_0 6 rfl) (by decide) (fun c_7 => ?_) (fun c_7 => ?_)
      · exact absurd ((ge_nI (a := 16) (i := i) (by decide) (by omega) rfl hx).mp c_7) (by omega)
      · refine st_iload_n C (dk DX3_sumOfLengths_0 7 rfl) rfl ?_
        refine st_iconst C (v := 0) (dk DX3_sumOfLengths_0 8 rfl) (by decide) ?_
        refine st_aload_n C (dk DX3_sumOfLengths_0 9 rfl) rfl ?_
        refine st_get C fl_RX3_24 (dk DX3_sumOfLengths_0 10 rfl) 0 rfl rfl ?_
        refine st_iload_n C (dk DX3_sumOfLengths_0 11 rfl) rfl ?_
        refine st_iald C (dk DX3_sumOfLengths_0 12 rfl) 1 rfl (vp_nI hx (by omega : i < 16) (by decide)) ?_
        refine st_max C (dk DX3_sumOfLengths_0 13 rfl) mk_RX3_70 (Nat.le_of_ble_eq_true rfl) ⟨Nat.le_of_ble_eq_true rfl, Nat.le_of_ble_eq_true rfl⟩ ⟨Nat.zero_le _, Nat.zero_le _⟩ ?_
        refine st_iadd C (dk DX3_sumOfLengths_0 14 rfl) ?_
        refine st_istore_n C (dk DX3_sumOfLengths_0 15 rfl) (by decide) rfl ?_
        refine st_iinc C (dk DX3_sumOfLengths_0 16 rfl) rfl (iadd_ofInt _ (1) (1) (by decide)) (by decide) rfl ?_
        refine st_goto C (tgt := 4) (dk DX3_sumOfLengths_0 17 rfl) (by decide) ?_
        exact ih (i + 1) _ _ (by omega) (up_nI hx) (by rw [cl_nI hx (by omega), hacc]; rfl)
  refine st_iconst C (v := 0) (dk DX3_sumOfLengths_0 0 rfl) (by decide) ?_
  refine st_istore_n C (dk DX3_sumOfLengths_0 1 rfl) (by decide) rfl ?_
  refine st_iconst C (v := 0) (dk DX3_sumOfLengths_0 2 rfl) (by decide) ?_
  refine st_istore_n C (dk DX3_sumOfLengths_0 3 rfl) (by decide) rfl ?_
  exact loop 16 0 _ _ (by omega) (by decide) rfl
set_option maxHeartbeats 4000000 in
set_option maxRecDepth 100000 in
theorem k_X3_forget (l : Launch) (G : wG) {t t1 t2 t3 t4 : Nat} {sz rc : Int32} {sn : Nat → Int64} {nd ln : Nat → Int32} : Con0 l G yX3_forget cX3_forget 2 none 0 [.ref t] [(t, ob 2 (sF t1 t2 t3 t4 sz rc)), (t2, aJ G 256 sn), (t3, aI G 16 nd), (t4, aI G 16 ln)] (fun v w => v = none ∧ ∃ (sn3 : Nat → Int64) (nd3 ln3 : Nat → Int32), (∀ j, j < 256 → sn3 j = 0) ∧ (∀ j, j < 16 → nd3 j = 0) ∧ (∀ j, j < 16 → ln3 j = -1) ∧ w = [(t, ob 2 (sF t1 t2 t3 t4 0 0)), (t2, aJ G 256 sn3), (t3, aI G 16 nd3), (t4, aI G 16 ln3)]) := by
  refine Con.mk (by decide +kernel) (Nat.le_of_ble_eq_true rfl) (fun P C Rr => ?_)
  have loop2 : ∀ (m i : Nat) (x : Int32) (sn : Nat → Int64) (nd ln : Nat → Int32), i + m = 16 → x = nI i → (∀ j, j < 256 → sn j = 0) → (∀ j, j < i → nd j = 0) → (∀ j, j < i → ln j = -1) → P 0 0 36 [(0, .ref t), (1, .int x)] [] [(t, ob 2 (sF t1 t2 t3 t4 0 0)), (t2, aJ G 256 sn), (t3, aI G 16 nd), (t4, aI G 16 ln)] := by
    intro m
    induction m with
    | zero =>
      intro i x sn nd ln hi hx hsn hnd hln
      obtain rfl : i = 16 := by omega
      refine st_iload_n C (dk DX3_forget_0 22 rfl) rfl ?_
      refine st_bipush C (v := 16) (dk DX3_forget_0 23 rfl) (by decide) ?_
      refine st_icmp_ge C (tgt := 62) (dk DX3_forget_0 24 rfl) (by decide) (fun c_39 => ?_) (fun c_39 => ?_)
      · exact Rr 0 0 _ _ _ _ _ _ (Nat.zero_le _) (Nat.zero_le _) (dk DX3_forget_0 37 rfl) (.inl ⟨rfl, rfl, rfl, rfl⟩) rfl ⟨rfl, ⟨rfl, sn, nd, ln, hsn, hnd, hln, rfl⟩⟩
      · exact absurd ((ge_nI (a := 16) (i := 16) (by decide) (by decide) rfl hx).mpr (Nat.le_refl _)) c_39
    | succ m ih =>
      intro i x sn nd ln hi hx hsn hnd hln
      refine st_iload_n C (dk DX3_forget_0 22 rfl) rfl ?_
      refine st_bipush C (v := 16) (dk DX3_forget_0 23 rfl) (by decide) ?_
      refine st_icmp_ge C (tgt := 62) (dk DX3_forget_0 24 rfl) (by decide) (fun c_39 => ?_) (fun c_39 => ?_)
      · exact absurd ((ge_nI (a := 16) (i := i) (by decide) (by omega) rfl hx).mp c_39) (by omega)
      · refine st_aload_n C (dk DX3_forget_0 25 rfl) rfl ?_
        refine st_get C fl_RX3_21 (dk DX3_forget_0 26 rfl) 0 rfl rfl ?_
        refine st_iload_n C (dk DX3_forget_0 27 rfl) rfl ?_
        refine st_iconst C (v := 0) (dk DX3_forget_0 28 rfl) (by decide) ?_
        refine st_iast C (dk DX3_forget_0 29 rfl) 2 rfl (vp_nI hx (by omega : i < 16) (by decide)) ?_
        refine st_aload_n C (dk DX3_forget_0 30 rfl) rfl ?_
        refine st_get C fl_RX3_24 (dk DX3_forget_0 31 rfl) 0 rfl rfl ?_
        refine st_iload_n C (dk DX3_forget_0 32 rfl) rfl ?_
        refine st_iconst C (v := -1) (dk DX3_forget_0 33 rfl) (by decide) ?_
        refine st_iast C (dk DX3_forget_0 34 rfl) 3 rfl (vp_nI hx (by omega : i < 16) (by decide)) ?_
        refine st_iinc C (dk DX3_forget_0 35 rfl) rfl (iadd_ofInt _ (1) (1) (by decide)) (by decide) rfl ?_
        refine st_goto C (tgt := 36) (dk DX3_forget_0 36 rfl) (by decide) ?_
        exact ih (i + 1) _ _ _ _ (by omega) (up_nI hx) hsn (upd_cp (g := fun _ => 0) hx (by omega) hnd) (upd_cp (g := fun _ => -1) hx (by omega) hln)
  have loop1 : ∀ (m i : Nat) (x : Int32) (sn : Nat → Int64), i + m = 256 → x = nI i → (∀ j, j < i → sn j = 0) → P 0 0 12 [(0, .ref t), (1, .int x)] [] [(t, ob 2 (sF t1 t2 t3 t4 0 0)), (t2, aJ G 256 sn), (t3, aI G 16 nd), (t4, aI G 16 ln)] := by
    intro m
    induction m with
    | zero =>
      intro i x sn hi hx hsn
      obtain rfl : i = 256 := by omega
      refine st_iload_n C (dk DX3_forget_0 8 rfl) rfl ?_
      refine st_aload_n C (dk DX3_forget_0 9 rfl) rfl ?_
      refine st_get C fl_RX3_17 (dk DX3_forget_0 10 rfl) 0 rfl rfl ?_
      refine st_alenJ C (dk DX3_forget_0 11 rfl) 1 rfl rfl ?_
      refine st_icmp_ge C (tgt := 34) (dk DX3_forget_0 12 rfl) (by decide) (fun c_18 => ?_) (fun c_18 => ?_)
      · refine st_iconst C (v := 0) (dk DX3_forget_0 20 rfl) (by decide) ?_
        refine st_istore_n C (dk DX3_forget_0 21 rfl) (by decide) rfl ?_
        exact loop2 16 0 _ _ _ _ (by omega) (by decide) hsn (fun j hj => absurd hj (Nat.not_lt_zero j)) (fun j hj => absurd hj (Nat.not_lt_zero j))
      · exact absurd ((ge_nI (a := 256) (i := 256) (by decide) (by decide) rfl hx).mpr (Nat.le_refl _)) c_18
    | succ m ih =>
      intro i x sn hi hx hsn
      refine st_iload_n C (dk DX3_forget_0 8 rfl) rfl ?_
      refine st_aload_n C (dk DX3_forget_0 9 rfl) rfl ?_
      refine st_get C fl_RX3_17 (dk DX3_forget_0 10 rfl) 0 rfl rfl ?_
      refine st_alenJ C (dk DX3_forget_0 11 rfl) 1 rfl rfl ?_
      refine st_icmp_ge C (tgt := 34) (dk DX3_forget_0 12 rfl) (by decide) (fun c_18 => ?_) (fun c_18 => ?_)
      · exact absurd ((ge_nI (a := 256) (i := i) (by decide) (by omega) rfl hx).mp c_18) (by omega)
      · refine st_aload_n C (dk DX3_forget_0 13 rfl) rfl ?_
        refine st_get C fl_RX3_17 (dk DX3_forget_0 14 rfl) 0 rfl rfl ?_
        refine st_iload_n C (dk DX3_forget_0 15 rfl) rfl ?_
        refine st_lconst C (v := 0) (dk DX3_forget_0 16 rfl) (by decide) ?_
        refine st_last C (dk DX3_forget_0 17 rfl) 1 rfl (vp_nI hx (by omega : i < 256) (by decide)) ?_
        refine st_iinc C (dk DX3_forget_0 18 rfl) rfl (iadd_ofInt _ (1) (1) (by decide)) (by decide) rfl ?_
        refine st_goto C (tgt := 12) (dk DX3_forget_0 19 rfl) (by decide) ?_
        exact ih (i + 1) _ _ (by omega) (up_nI hx) (upd_cpL (g := fun _ => 0) hx (by omega) hsn)
  refine st_aload_n C (dk DX3_forget_0 0 rfl) rfl ?_
  refine st_iconst C (v := 0) (dk DX3_forget_0 1 rfl) (by decide) ?_
  refine st_put C fl_RX3_40 fc_2 fw_2_4 (dk DX3_forget_0 2 rfl) 0 rfl rfl rfl (Nat.le_of_ble_eq_true rfl) ?_
  refine st_aload_n C (dk DX3_forget_0 3 rfl) rfl ?_
  refine st_iconst C (v := 0) (dk DX3_forget_0 4 rfl) (by decide) ?_
  refine st_put C fl_RX3_43 fc_2 fw_2_5 (dk DX3_forget_0 5 rfl) 0 rfl rfl rfl (Nat.le_of_ble_eq_true rfl) ?_
  refine st_iconst C (v := 0) (dk DX3_forget_0 6 rfl) (by decide) ?_
  refine st_istore_n C (dk DX3_forget_0 7 rfl) (by decide) rfl ?_
  exact loop1 256 0 _ _ (by omega) (by decide) (fun j hj => absurd hj (Nat.not_lt_zero j))
