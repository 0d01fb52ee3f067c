/-! Double.isNaN, doubleToLongBits -/
section Md
variable {l : Launch} {G : wG} {own : String} {cc : ByteArray} {nL : Nat} {nm : String} {R : Room} {P : PT} {k n pc : Nat} {lv : List (Nat × Value)} {st : List Value} {ws : va_W}
theorem st_d2l (C : Cx l G own cc nL nm R P) {idx : Nat} {x : UInt64} (hd : decode cc pc = .ok (.invokestatic idx, 3)) (hl : Cond.methodLink own idx ⟨"java/lang/Double", "doubleToRawLongBits", "(D)J"⟩ ∈ WS) (hn : Cond.native ⟨"java/lang/Double", "doubleToRawLongBits", "(D)J"⟩ ∈ WS) (hs : Cond.static ⟨"java/lang/Double", "doubleToRawLongBits", "(D)J"⟩ ∈ WS) (hW : (st.map fun v => v.category).sum ≤ 8) (hR : 1 ≤ R.frames ∧ 23 ≤ R.locals) (kk : P k n (pc + 3) lv (.long x.toInt64 :: st) ws) : P k n pc lv (.double x :: st) ws := by
  obtain ⟨p, e, s, m, args, below, meth, c, A, Q, ⟨hx, hb, hml, hnm, hown, hts, hK, hA⟩, rfl⟩ := C
  intro H locs ls hP hD hS hl9
  exact vn_d2l hx hb (hml.trans hl9.1.symm) hown (hts _ hl) (hts _ hn) (hts _ hs) (hts _ mf_JD_dtl.2.1) hR.1 (by have := hR.2; omega) hd (kk H locs ls hP hD hS hl9)
end Md
theorem mk_raw : Cond.methodLink RJD 134 ⟨"java/lang/Double", "doubleToRawLongBits", "(D)J"⟩ ∈ WS := (WS_in 988 (by decide +kernel) rfl)
theorem ms_raw : Cond.static ⟨"java/lang/Double", "doubleToRawLongBits", "(D)J"⟩ ∈ WS := (WS_in 989 (by decide +kernel) rfl)
theorem mn_raw : Cond.native ⟨"java/lang/Double", "doubleToRawLongBits", "(D)J"⟩ ∈ WS := (WS_in 990 (by decide +kernel) rfl)
theorem shD_num : ∀ k, k < 17 → Op.cmpValue (FP.dcmp (shD k) (shD k)) .l = 0 := by unfold shD; decide +kernel
set_option maxHeartbeats 4000000 in
set_option maxRecDepth 100000 in
theorem k_JD_isNaN (l : Launch) (G : wG) {x : UInt64} : Con0 l G yJD_isNaN cJD_isNaN 2 (some .boolean) 0 [.double x] [] (fun r w => r = some (.int (if Op.cmpValue (FP.dcmp x x) .l = 0 then 0 else 1)) ∧ w = []) := by
  refine Con.mk (by decide +kernel) (Nat.le_of_ble_eq_true rfl) (fun P C Rr => ?_)
  refine st_dload_n C (dk DJD_isNaN_0 0 rfl) rfl ?_
  refine st_dload_n C (dk DJD_isNaN_0 1 rfl) rfl ?_
  refine st_dcmp C (dk DJD_isNaN_0 2 rfl) ?_
  refine st_if_eq C (tgt := 10) (dk DJD_isNaN_0 3 rfl) (by decide) (fun c_3 => ?_) (fun c_3 => ?_)
  · refine st_iconst C (v := 0) (dk DJD_isNaN_0 6 rfl) (by decide) ?_
    exact Rr 0 0 _ _ _ _ _ _ (Nat.zero_le _) (Nat.zero_le _) (dk DJD_isNaN_0 7 rfl) (.inr (.inr (.inl ⟨_, rfl, (by first | exact Or.inl rfl | exact Or.inr rfl | assumption), rfl, rfl, rfl⟩))) rfl ⟨rfl, ⟨by first | (simp [c_3]; done) | (simp_all []; done), rfl⟩⟩
  · refine st_iconst C (v := 1) (dk DJD_isNaN_0 4 rfl) (by decide) ?_
    refine st_goto C (tgt := 11) (dk DJD_isNaN_0 5 rfl) (by decide) ?_
    exact Rr 0 0 _ _ _ _ _ _ (Nat.zero_le _) (Nat.zero_le _) (dk DJD_isNaN_0 7 rfl) (.inr (.inr (.inl ⟨_, rfl, (by first | exact Or.inl rfl | exact Or.inr rfl | assumption), rfl, rfl, rfl⟩))) rfl ⟨rfl, ⟨by first | (simp [c_3]; done) | (simp_all []; done), rfl⟩⟩
set_option maxHeartbeats 4000000 in
set_option maxRecDepth 100000 in
theorem k_JD_dtl (l : Launch) (G : wG) {x : UInt64} (hx : Op.cmpValue (FP.dcmp x x) .l = 0) : Con0 l G yJD_dtl cJD_dtl 2 (some .long) 1 [.double x] [] (fun r w => r = some (.long x.toInt64) ∧ w = []) := by
  refine Con.mk (by decide +kernel) (Nat.le_of_ble_eq_true rfl) (fun P C Rr => ?_)
  refine st_dload_n C (dk DJD_dtl_0 0 rfl) rfl ?_
  refine st_cS C (k_JD_isNaN l G) mf_JD_isNaN ms_JD_isNaN ml_RJD_122 (dk DJD_dtl_0 1 rfl) [] rfl rfl rfl rfl (Nat.le_of_ble_eq_true rfl) ⟨Nat.le_of_ble_eq_true rfl, Nat.le_of_ble_eq_true rfl⟩ ⟨Nat.zero_le _, Nat.zero_le _⟩ (fun r9 w9 hq9 => ?_)
  obtain ⟨rfl, rfl⟩ := hq9
  refine st_if_ne C (tgt := 12) (dk DJD_dtl_0 2 rfl) (by decide) (fun c_4 => ?_) (fun c_4 => ?_)
  · exact absurd (if_pos hx) c_4
  · refine st_dload_n C (dk DJD_dtl_0 3 rfl) rfl ?_
    refine st_d2l C (dk DJD_dtl_0 4 rfl) mk_raw mn_raw ms_raw (Nat.le_of_ble_eq_true rfl) ⟨Nat.le_of_ble_eq_true rfl, Nat.le_of_ble_eq_true rfl⟩ ?_
    exact Rr 0 0 _ _ _ _ _ _ (Nat.zero_le _) (Nat.zero_le _) (dk DJD_dtl_0 5 rfl) (.inr (.inr (.inr (.inl ⟨_, rfl, rfl, rfl, rfl⟩)))) rfl ⟨rfl, ⟨rfl, rfl⟩⟩
