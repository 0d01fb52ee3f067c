/-! the constructors -/
theorem cellQ {cA : ClassId} {n : Nat} {f g : Nat → Option Nat} (h : ∀ j, j < n → f j = g j) : vp_cell cA (n, .inr (.inr (.inr (.inr f)))) = vp_cell cA (n, .inr (.inr (.inr (.inr g)))) := by
  rw [vp_cell_q, vp_cell_q]
  unfold arrV
  congr 2
  funext j
  show va_rf (f j.1) = va_rf (g j.1)
  rw [h j.1 j.2]
theorem st_eqQ {l : Launch} {G : wG} {own : String} {cc : ByteArray} {nL : Nat} {nm : String} {R : Room} {P : PT} {k n pc : Nat} {lv : List (Nat × Value)} {st : List Value} {ws : va_W} (C : Cx l G own cc nL nm R P) {a N : Nat} {f : Nat → Option Nat} (g : Nat → Option Nat) (q0 : Nat) (he : ws[q0]? = some (a, aQ G N f)) (h : ∀ j, j < N → f j = g j) (kk : P k n pc lv st (ws.set q0 (a, aQ G N g))) : P k n pc lv st ws := by
  obtain ⟨p, e, s, m, args, below, meth, c, A, Q, ⟨hx, hb, hml, hnm, hown, hts, hK, hA⟩, rfl⟩ := C
  intro H locs ls hP hD hS hl
  refine kk H locs ls (fun i q hq => ?_) (hD.set he) hS hl
  by_cases e9 : i = q0
  · subst e9
    have hi : i < ws.length := (List.getElem?_eq_some_iff.mp he).1
    rw [List.getElem?_set_self hi] at hq
    cases hq
    have h1 : H[a]? = some (vp_cell G.2.2.2 (N, .inr (.inr (.inr (.inr f))))) := hP i _ he
    show H[a]? = some (vp_cell G.2.2.2 (N, .inr (.inr (.inr (.inr g)))))
    rw [h1, cellQ h]
  · rw [List.getElem?_set_ne (fun h9 => e9 h9.symm)] at hq
    exact hP i q hq
def nth6 (a b c d e f : Nat) : Nat → Nat
  | 0 => a
  | 1 => b
  | 2 => c
  | 3 => d
  | 4 => e
  | _ => f
set_option maxHeartbeats 8000000 in
set_option maxRecDepth 100000 in
theorem k_X1_init (l : Launch) (G : wG) {p : Nat}  : ConN l G yX1_init cX1_init 1 none 1 2 31 [.ref p] [(p, ob 0 [.null, .null, .int 0, .int 0, .int 0, .int 0, .int 0, .int 0, .int 0])] (fun r w1 w2 => r = none ∧ ∃ q1 q2 : Nat, w1 = [(p, ob 0 (cR q1 q2 (mk7 0 0 (rOf 0 17 17) 4 0 0 0)))] ∧ w2 = [(q1, aI G 15 (fun _ => 0)), (q2, aI G 16 (fun _ => 0))]) := by
  refine ConN.mk (by decide +kernel) (Nat.le_of_ble_eq_true rfl) (fun P C Rr => ?_)
  refine st_aload_n C.cx (dk DX1_init_0 0 rfl) rfl ?_
  refine st_oi C.cx oi_RX1_3 (dk DX1_init_0 1 rfl) (Nat.le_of_ble_eq_true rfl) ⟨Nat.le_of_ble_eq_true rfl, Nat.le_of_ble_eq_true rfl⟩ ?_
  refine st_aload_n C.cx (dk DX1_init_0 2 rfl) rfl ?_
  refine st_bipush C.cx (v := 15) (dk DX1_init_0 3 rfl) (by decide) ?_
  refine st_newI C.cx ac_int (N := 15) rfl (by decide) (dk DX1_init_0 4 rfl) ⟨Nat.le_of_ble_eq_true rfl, Nat.le_of_ble_eq_true rfl⟩ (fun n1 => ?_)
  simp only [List.cons_append, List.nil_append]
  refine st_putF C.cx ff_RX1_9 fc_0 fw_0_0 (dk DX1_init_0 5 rfl) 0 rfl rfl rfl (Nat.le_of_ble_eq_true rfl) ?_
  simp only [List.set_cons_zero, List.set_cons_succ]
  refine st_aload_n C.cx (dk DX1_init_0 6 rfl) rfl ?_
  refine st_bipush C.cx (v := 16) (dk DX1_init_0 7 rfl) (by decide) ?_
  refine st_newI C.cx ac_int (N := 16) rfl (by decide) (dk DX1_init_0 8 rfl) ⟨Nat.le_of_ble_eq_true rfl, Nat.le_of_ble_eq_true rfl⟩ (fun n2 => ?_)
  simp only [List.cons_append, List.nil_append]
  refine st_putF C.cx ff_RX1_15 fc_0 fw_0_1 (dk DX1_init_0 9 rfl) 0 rfl rfl rfl (Nat.le_of_ble_eq_true rfl) ?_
  simp only [List.set_cons_zero, List.set_cons_succ]
  refine st_aload_n C.cx (dk DX1_init_0 10 rfl) rfl ?_
  refine st_iconst C.cx (v := 0) (dk DX1_init_0 11 rfl) (by decide) ?_
  refine st_bipush C.cx (v := 17) (dk DX1_init_0 12 rfl) (by decide) ?_
  refine st_bipush C.cx (v := 17) (dk DX1_init_0 13 rfl) (by decide) ?_
  refine st_cS C.cx (k_X0_of l G) mf_X0_of ms_X0_of ml_RX1_20 (dk DX1_init_0 14 rfl) [] rfl rfl rfl rfl (Nat.le_of_ble_eq_true rfl) ⟨Nat.le_of_ble_eq_true rfl, Nat.le_of_ble_eq_true rfl⟩ ⟨Nat.le_of_ble_eq_true rfl, Nat.le_of_ble_eq_true rfl⟩ (fun r9 w9 hq9 => ?_)
  obtain ⟨rfl, rfl⟩ := hq9
  show P _ _ _ _ _ [_, _, _]
  refine st_put C.cx fl_RX1_24 fc_0 fw_0_4 (dk DX1_init_0 15 rfl) 0 rfl rfl rfl (Nat.le_of_ble_eq_true rfl) ?_
  simp only [List.set_cons_zero, List.set_cons_succ]
  refine st_aload_n C.cx (dk DX1_init_0 16 rfl) rfl ?_
  refine st_iconst C.cx (v := 4) (dk DX1_init_0 17 rfl) (by decide) ?_
  refine st_put C.cx fl_RX1_28 fc_0 fw_0_5 (dk DX1_init_0 18 rfl) 0 rfl rfl rfl (Nat.le_of_ble_eq_true rfl) ?_
  simp only [List.set_cons_zero, List.set_cons_succ]
  exact Rr _ _ _ _ _ _ _ _ (Nat.le_of_ble_eq_true rfl) (Nat.le_of_ble_eq_true rfl) (dk DX1_init_0 19 rfl) (.inl ⟨rfl, rfl, rfl, rfl⟩) rfl ⟨rfl, n1, n2, rfl, rfl⟩
set_option maxHeartbeats 8000000 in
set_option maxRecDepth 100000 in
theorem k_X4_init (l : Launch) (G : wG) {y : Nat}  : ConN l G yX4_init cX4_init 1 none 1 1 60 [.ref y] [(y, ob 3 [.null, .int 0, .int 0, .int 0])] (fun r w1 w2 => r = none ∧ ∃ y1 : Nat, w1 = [(y, ob 3 (tF y1 0 0 0))] ∧ w2 = [(y1, aI G 60 (fun _ => 0))]) := by
  refine ConN.mk (by decide +kernel) (Nat.le_of_ble_eq_true rfl) (fun P C Rr => ?_)
  refine st_aload_n C.cx (dk DX4_init_0 0 rfl) rfl ?_
  refine st_oi C.cx oi_RX4_3 (dk DX4_init_0 1 rfl) (Nat.le_of_ble_eq_true rfl) ⟨Nat.le_of_ble_eq_true rfl, Nat.le_of_ble_eq_true rfl⟩ ?_
  refine st_aload_n C.cx (dk DX4_init_0 2 rfl) rfl ?_
  refine st_bipush C.cx (v := 60) (dk DX4_init_0 3 rfl) (by decide) ?_
  refine st_newI C.cx ac_int (N := 60) rfl (by decide) (dk DX4_init_0 4 rfl) ⟨Nat.le_of_ble_eq_true rfl, Nat.le_of_ble_eq_true rfl⟩ (fun n1 => ?_)
  simp only [List.cons_append, List.nil_append]
  refine st_putF C.cx ff_RX4_9 fc_3 fw_3_0 (dk DX4_init_0 5 rfl) 0 rfl rfl rfl (Nat.le_of_ble_eq_true rfl) ?_
  simp only [List.set_cons_zero, List.set_cons_succ]
  exact Rr _ _ _ _ _ _ _ _ (Nat.le_of_ble_eq_true rfl) (Nat.le_of_ble_eq_true rfl) (dk DX4_init_0 6 rfl) (.inl ⟨rfl, rfl, rfl, rfl⟩) rfl ⟨rfl, n1, rfl, rfl⟩
set_option maxHeartbeats 8000000 in
set_option maxRecDepth 100000 in
theorem k_X3_init (l : Launch) (G : wG) {t : Nat}  : ConN l G yX3_init cX3_init 1 none 1 4 4912 [.ref t] [(t, ob 2 [.null, .null, .null, .null, .int 0, .int 0])] (fun r w1 w2 => r = none ∧ ∃ t1 t2 t3 t4 : Nat, w1 = [(t, ob 2 (sF t1 t2 t3 t4 0 0))] ∧ w2 = [(t1, aI G 4624 (fun _ => 0)), (t2, aJ G 256 (fun _ => 0)), (t3, aI G 16 (fun _ => 0)), (t4, aI G 16 (fun _ => 0))]) := by
  refine ConN.mk (by decide +kernel) (Nat.le_of_ble_eq_true rfl) (fun P C Rr => ?_)
  refine st_aload_n C.cx (dk DX3_init_0 0 rfl) rfl ?_
  refine st_oi C.cx oi_RX3_3 (dk DX3_init_0 1 rfl) (Nat.le_of_ble_eq_true rfl) ⟨Nat.le_of_ble_eq_true rfl, Nat.le_of_ble_eq_true rfl⟩ ?_
  refine st_aload_n C.cx (dk DX3_init_0 2 rfl) rfl ?_
  refine st_sipush C.cx (v := 4624) (dk DX3_init_0 3 rfl) (by decide) ?_
  refine st_newI C.cx ac_int (N := 4624) rfl (by decide) (dk DX3_init_0 4 rfl) ⟨Nat.le_of_ble_eq_true rfl, Nat.le_of_ble_eq_true rfl⟩ (fun n1 => ?_)
  simp only [List.cons_append, List.nil_append]
  refine st_putF C.cx ff_RX3_11 fc_2 fw_2_0 (dk DX3_init_0 5 rfl) 0 rfl rfl rfl (Nat.le_of_ble_eq_true rfl) ?_
  simp only [List.set_cons_zero, List.set_cons_succ]
  refine st_aload_n C.cx (dk DX3_init_0 6 rfl) rfl ?_
  refine st_sipush C.cx (v := 256) (dk DX3_init_0 7 rfl) (by decide) ?_
  refine st_newJ C.cx ac_long (N := 256) rfl (by decide) (dk DX3_init_0 8 rfl) ⟨Nat.le_of_ble_eq_true rfl, Nat.le_of_ble_eq_true rfl⟩ (fun n2 => ?_)
  simp only [List.cons_append, List.nil_append]
  refine st_putF C.cx ff_RX3_17 fc_2 fw_2_1 (dk DX3_init_0 9 rfl) 0 rfl rfl rfl (Nat.le_of_ble_eq_true rfl) ?_
  simp only [List.set_cons_zero, List.set_cons_succ]
  refine st_aload_n C.cx (dk DX3_init_0 10 rfl) rfl ?_
  refine st_bipush C.cx (v := 16) (dk DX3_init_0 11 rfl) (by decide) ?_
  refine st_newI C.cx ac_int (N := 16) rfl (by decide) (dk DX3_init_0 12 rfl) ⟨Nat.le_of_ble_eq_true rfl, Nat.le_of_ble_eq_true rfl⟩ (fun n3 => ?_)
  simp only [List.cons_append, List.nil_append]
  refine st_putF C.cx ff_RX3_21 fc_2 fw_2_2 (dk DX3_init_0 13 rfl) 0 rfl rfl rfl (Nat.le_of_ble_eq_true rfl) ?_
  simp only [List.set_cons_zero, List.set_cons_succ]
  refine st_aload_n C.cx (dk DX3_init_0 14 rfl) rfl ?_
  refine st_bipush C.cx (v := 16) (dk DX3_init_0 15 rfl) (by decide) ?_
  refine st_newI C.cx ac_int (N := 16) rfl (by decide) (dk DX3_init_0 16 rfl) ⟨Nat.le_of_ble_eq_true rfl, Nat.le_of_ble_eq_true rfl⟩ (fun n4 => ?_)
  simp only [List.cons_append, List.nil_append]
  refine st_putF C.cx ff_RX3_24 fc_2 fw_2_3 (dk DX3_init_0 17 rfl) 0 rfl rfl rfl (Nat.le_of_ble_eq_true rfl) ?_
  simp only [List.set_cons_zero, List.set_cons_succ]
  exact Rr _ _ _ _ _ _ _ _ (Nat.le_of_ble_eq_true rfl) (Nat.le_of_ble_eq_true rfl) (dk DX3_init_0 18 rfl) (.inl ⟨rfl, rfl, rfl, rfl⟩) rfl ⟨rfl, n1, n2, n3, n4, rfl, rfl⟩
set_option maxHeartbeats 8000000 in
set_option maxRecDepth 100000 in
theorem k_X2_init (l : Launch) (G : wG) {v : Nat}  : ConN l G yX2_init cX2_init 2 none 2 19 246 [.ref v] [(v, ob 1 [.null, .int 0, .int 0])] (fun r w1 w2 => r = none ∧ ∃ (v1 : Nat) (u u1 u2 : Nat → Nat), w1 = [(v, ob 1 (vF v1 0 0))] ∧ w2 = [(v1, aQ G 6 (fun k => some (u k))), (u 0, ob 0 (cR (u1 0) (u2 0) (mk7 0 0 (rOf 0 17 17) 4 0 0 0))), (u1 0, aI G 15 (fun _ => 0)), (u2 0, aI G 16 (fun _ => 0)), (u 1, ob 0 (cR (u1 1) (u2 1) (mk7 0 0 (rOf 0 17 17) 4 0 0 0))), (u1 1, aI G 15 (fun _ => 0)), (u2 1, aI G 16 (fun _ => 0)), (u 2, ob 0 (cR (u1 2) (u2 2) (mk7 0 0 (rOf 0 17 17) 4 0 0 0))), (u1 2, aI G 15 (fun _ => 0)), (u2 2, aI G 16 (fun _ => 0)), (u 3, ob 0 (cR (u1 3) (u2 3) (mk7 0 0 (rOf 0 17 17) 4 0 0 0))), (u1 3, aI G 15 (fun _ => 0)), (u2 3, aI G 16 (fun _ => 0)), (u 4, ob 0 (cR (u1 4) (u2 4) (mk7 0 0 (rOf 0 17 17) 4 0 0 0))), (u1 4, aI G 15 (fun _ => 0)), (u2 4, aI G 16 (fun _ => 0)), (u 5, ob 0 (cR (u1 5) (u2 5) (mk7 0 0 (rOf 0 17 17) 4 0 0 0))), (u1 5, aI G 15 (fun _ => 0)), (u2 5, aI G 16 (fun _ => 0))]) := by
  refine ConN.mk (by decide +kernel) (Nat.le_of_ble_eq_true rfl) (fun P C Rr => ?_)
  refine st_aload_n C.cx (dk DX2_init_0 0 rfl) rfl ?_
  refine st_oi C.cx oi_RX2_3 (dk DX2_init_0 1 rfl) (Nat.le_of_ble_eq_true rfl) ⟨Nat.le_of_ble_eq_true rfl, Nat.le_of_ble_eq_true rfl⟩ ?_
  refine st_aload_n C.cx (dk DX2_init_0 2 rfl) rfl ?_
  refine st_bipush C.cx (v := 6) (dk DX2_init_0 3 rfl) (by decide) ?_
  refine st_newQ C cl_RX2_9 (N := 6) rfl (by decide) (dk DX2_init_0 4 rfl) ⟨Nat.le_of_ble_eq_true rfl, Nat.le_of_ble_eq_true rfl⟩ (fun n1 => ?_)
  simp only [List.cons_append, List.nil_append]
  refine st_putF C.cx ff_RX2_11 fc_1 fw_1_0 (dk DX2_init_0 5 rfl) 0 rfl rfl rfl (Nat.le_of_ble_eq_true rfl) ?_
  simp only [List.set_cons_zero, List.set_cons_succ]
  refine st_iconst C.cx (v := 0) (dk DX2_init_0 6 rfl) (by decide) ?_
  refine st_istore_n C.cx (dk DX2_init_0 7 rfl) (by decide) rfl ?_
  refine st_iload_n C.cx (dk DX2_init_0 8 rfl) rfl ?_
  refine st_bipush C.cx (v := 6) (dk DX2_init_0 9 rfl) (by decide) ?_
  refine st_icmp_ge C.cx (tgt := 40) (dk DX2_init_0 10 rfl) (by decide) (fun c_18 => ?_) (fun c_18 => ?_)
  · exact absurd c_18 (by decide)
  · refine st_aload_n C.cx (dk DX2_init_0 11 rfl) rfl ?_
    refine st_get C.cx fl_RX2_11 (dk DX2_init_0 12 rfl) 0 rfl rfl ?_
    refine st_iload_n C.cx (dk DX2_init_0 13 rfl) rfl ?_
    refine st_new C.cx nw_RX2_9 (dk DX2_init_0 14 rfl) ⟨Nat.le_of_ble_eq_true rfl, Nat.le_of_ble_eq_true rfl⟩ (fun n2 => ?_)
    simp only [List.cons_append, List.nil_append]
    refine st_dup C.cx (dk DX2_init_0 15 rfl) rfl ?_
    refine st_callN C (k_X1_init l G) mf_X1_init mi_X1_init ml_RX2_17 (dk DX2_init_0 16 rfl) [2] rfl rfl rfl rfl (Nat.le_of_ble_eq_true rfl) ⟨Nat.le_of_ble_eq_true rfl, Nat.le_of_ble_eq_true rfl⟩ ⟨Nat.le_of_ble_eq_true rfl, Nat.le_of_ble_eq_true rfl⟩ (fun r9 w9 v9 hq9 => ?_)
    obtain ⟨rfl, q1_3, q2_3, rfl, rfl⟩ := hq9
    simp only [put_cons, put_nil, List.set_cons_zero, List.set_cons_succ, List.cons_append, List.nil_append]
    refine st_astq C.cx (dk DX2_init_0 17 rfl) 1 2 rfl rfl (by unfold vp_in; decide) ?_
    simp only [List.set_cons_zero, List.set_cons_succ]
    refine st_iinc C.cx (dk DX2_init_0 18 rfl) rfl (iadd_ofInt _ (1) (1) (by decide)) (by decide) rfl ?_
    refine st_goto C.cx (tgt := 15) (dk DX2_init_0 19 rfl) (by decide) ?_
    refine st_iload_n C.cx (dk DX2_init_0 8 rfl) rfl ?_
    refine st_bipush C.cx (v := 6) (dk DX2_init_0 9 rfl) (by decide) ?_
    refine st_icmp_ge C.cx (tgt := 40) (dk DX2_init_0 10 rfl) (by decide) (fun c_18_1 => ?_) (fun c_18_1 => ?_)
    · exact absurd c_18_1 (by decide)
    · refine st_aload_n C.cx (dk DX2_init_0 11 rfl) rfl ?_
      refine st_get C.cx fl_RX2_11 (dk DX2_init_0 12 rfl) 0 rfl rfl ?_
      refine st_iload_n C.cx (dk DX2_init_0 13 rfl) rfl ?_
      refine st_new C.cx nw_RX2_9 (dk DX2_init_0 14 rfl) ⟨Nat.le_of_ble_eq_true rfl, Nat.le_of_ble_eq_true rfl⟩ (fun n4 => ?_)
      simp only [List.cons_append, List.nil_append]
      refine st_dup C.cx (dk DX2_init_0 15 rfl) rfl ?_
      refine st_callN C (k_X1_init l G) mf_X1_init mi_X1_init ml_RX2_17 (dk DX2_init_0 16 rfl) [5] rfl rfl rfl rfl (Nat.le_of_ble_eq_true rfl) ⟨Nat.le_of_ble_eq_true rfl, Nat.le_of_ble_eq_true rfl⟩ ⟨Nat.le_of_ble_eq_true rfl, Nat.le_of_ble_eq_true rfl⟩ (fun r9 w9 v9 hq9 => ?_)
      obtain ⟨rfl, q1_5, q2_5, rfl, rfl⟩ := hq9
      simp only [put_cons, put_nil, List.set_cons_zero, List.set_cons_succ, List.cons_append, List.nil_append]
      refine st_astq C.cx (dk DX2_init_0 17 rfl) 1 5 rfl rfl (by unfold vp_in; decide) ?_
      simp only [List.set_cons_zero, List.set_cons_succ]
      refine st_iinc C.cx (dk DX2_init_0 18 rfl) rfl (iadd_ofInt _ (1) (1) (by decide)) (by decide) rfl ?_
      refine st_goto C.cx (tgt := 15) (dk DX2_init_0 19 rfl) (by decide) ?_
      refine st_iload_n C.cx (dk DX2_init_0 8 rfl) rfl ?_
      refine st_bipush C.cx (v := 6) (dk DX2_init_0 9 rfl) (by decide) ?_
      refine st_icmp_ge C.cx (tgt := 40) (dk DX2_init_0 10 rfl) (by decide) (fun c_18_2 => ?_) (fun c_18_2 => ?_)
      · exact absurd c_18_2 (by decide)
      · refine st_aload_n C.cx (dk DX2_init_0 11 rfl) rfl ?_
        refine st_get C.cx fl_RX2_11 (dk DX2_init_0 12 rfl) 0 rfl rfl ?_
        refine st_iload_n C.cx (dk DX2_init_0 13 rfl) rfl ?_
        refine st_new C.cx nw_RX2_9 (dk DX2_init_0 14 rfl) ⟨Nat.le_of_ble_eq_true rfl, Nat.le_of_ble_eq_true rfl⟩ (fun n6 => ?_)
        simp only [List.cons_append, List.nil_append]
        refine st_dup C.cx (dk DX2_init_0 15 rfl) rfl ?_
        refine st_callN C (k_X1_init l G) mf_X1_init mi_X1_init ml_RX2_17 (dk DX2_init_0 16 rfl) [8] rfl rfl rfl rfl (Nat.le_of_ble_eq_true rfl) ⟨Nat.le_of_ble_eq_true rfl, Nat.le_of_ble_eq_true rfl⟩ ⟨Nat.le_of_ble_eq_true rfl, Nat.le_of_ble_eq_true rfl⟩ (fun r9 w9 v9 hq9 => ?_)
        obtain ⟨rfl, q1_7, q2_7, rfl, rfl⟩ := hq9
        simp only [put_cons, put_nil, List.set_cons_zero, List.set_cons_succ, List.cons_append, List.nil_append]
        refine st_astq C.cx (dk DX2_init_0 17 rfl) 1 8 rfl rfl (by unfold vp_in; decide) ?_
        simp only [List.set_cons_zero, List.set_cons_succ]
        refine st_iinc C.cx (dk DX2_init_0 18 rfl) rfl (iadd_ofInt _ (1) (1) (by decide)) (by decide) rfl ?_
        refine st_goto C.cx (tgt := 15) (dk DX2_init_0 19 rfl) (by decide) ?_
        refine st_iload_n C.cx (dk DX2_init_0 8 rfl) rfl ?_
        refine st_bipush C.cx (v := 6) (dk DX2_init_0 9 rfl) (by decide) ?_
        refine st_icmp_ge C.cx (tgt := 40) (dk DX2_init_0 10 rfl) (by decide) (fun c_18_3 => ?_) (fun c_18_3 => ?_)
        · exact absurd c_18_3 (by decide)
        · refine st_aload_n C.cx (dk DX2_init_0 11 rfl) rfl ?_
          refine st_get C.cx fl_RX2_11 (dk DX2_init_0 12 rfl) 0 rfl rfl ?_
          refine st_iload_n C.cx (dk DX2_init_0 13 rfl) rfl ?_
          refine st_new C.cx nw_RX2_9 (dk DX2_init_0 14 rfl) ⟨Nat.le_of_ble_eq_true rfl, Nat.le_of_ble_eq_true rfl⟩ (fun n8 => ?_)
          simp only [List.cons_append, List.nil_append]
          refine st_dup C.cx (dk DX2_init_0 15 rfl) rfl ?_
          refine st_callN C (k_X1_init l G) mf_X1_init mi_X1_init ml_RX2_17 (dk DX2_init_0 16 rfl) [11] rfl rfl rfl rfl (Nat.le_of_ble_eq_true rfl) ⟨Nat.le_of_ble_eq_true rfl, Nat.le_of_ble_eq_true rfl⟩ ⟨Nat.le_of_ble_eq_true rfl, Nat.le_of_ble_eq_true rfl⟩ (fun r9 w9 v9 hq9 => ?_)
          obtain ⟨rfl, q1_9, q2_9, rfl, rfl⟩ := hq9
          simp only [put_cons, put_nil, List.set_cons_zero, List.set_cons_succ, List.cons_append, List.nil_append]
          refine st_astq C.cx (dk DX2_init_0 17 rfl) 1 11 rfl rfl (by unfold vp_in; decide) ?_
          simp only [List.set_cons_zero, List.set_cons_succ]
          refine st_iinc C.cx (dk DX2_init_0 18 rfl) rfl (iadd_ofInt _ (1) (1) (by decide)) (by decide) rfl ?_
          refine st_goto C.cx (tgt := 15) (dk DX2_init_0 19 rfl) (by decide) ?_
          refine st_iload_n C.cx (dk DX2_init_0 8 rfl) rfl ?_
          refine st_bipush C.cx (v := 6) (dk DX2_init_0 9 rfl) (by decide) ?_
          refine st_icmp_ge C.cx (tgt := 40) (dk DX2_init_0 10 rfl) (by decide) (fun c_18_4 => ?_) (fun c_18_4 => ?_)
          · exact absurd c_18_4 (by decide)
          · refine st_aload_n C.cx (dk DX2_init_0 11 rfl) rfl ?_
            refine st_get C.cx fl_RX2_11 (dk DX2_init_0 12 rfl) 0 rfl rfl ?_
            refine st_iload_n C.cx (dk DX2_init_0 13 rfl) rfl ?_
            refine st_new C.cx nw_RX2_9 (dk DX2_init_0 14 rfl) ⟨Nat.le_of_ble_eq_true rfl, Nat.le_of_ble_eq_true rfl⟩ (fun n10 => ?_)
            simp only [List.cons_append, List.nil_append]
            refine st_dup C.cx (dk DX2_init_0 15 rfl) rfl ?_
            refine st_callN C (k_X1_init l G) mf_X1_init mi_X1_init ml_RX2_17 (dk DX2_init_0 16 rfl) [14] rfl rfl rfl rfl (Nat.le_of_ble_eq_true rfl) ⟨Nat.le_of_ble_eq_true rfl, Nat.le_of_ble_eq_true rfl⟩ ⟨Nat.le_of_ble_eq_true rfl, Nat.le_of_ble_eq_true rfl⟩ (fun r9 w9 v9 hq9 => ?_)
            obtain ⟨rfl, q1_11, q2_11, rfl, rfl⟩ := hq9
            simp only [put_cons, put_nil, List.set_cons_zero, List.set_cons_succ, List.cons_append, List.nil_append]
            refine st_astq C.cx (dk DX2_init_0 17 rfl) 1 14 rfl rfl (by unfold vp_in; decide) ?_
            simp only [List.set_cons_zero, List.set_cons_succ]
            refine st_iinc C.cx (dk DX2_init_0 18 rfl) rfl (iadd_ofInt _ (1) (1) (by decide)) (by decide) rfl ?_
            refine st_goto C.cx (tgt := 15) (dk DX2_init_0 19 rfl) (by decide) ?_
            refine st_iload_n C.cx (dk DX2_init_0 8 rfl) rfl ?_
            refine st_bipush C.cx (v := 6) (dk DX2_init_0 9 rfl) (by decide) ?_
            refine st_icmp_ge C.cx (tgt := 40) (dk DX2_init_0 10 rfl) (by decide) (fun c_18_5 => ?_) (fun c_18_5 => ?_)
            · exact absurd c_18_5 (by decide)
            · refine st_aload_n C.cx (dk DX2_init_0 11 rfl) rfl ?_
              refine st_get C.cx fl_RX2_11 (dk DX2_init_0 12 rfl) 0 rfl rfl ?_
              refine st_iload_n C.cx (dk DX2_init_0 13 rfl) rfl ?_
              refine st_new C.cx nw_RX2_9 (dk DX2_init_0 14 rfl) ⟨Nat.le_of_ble_eq_true rfl, Nat.le_of_ble_eq_true rfl⟩ (fun n12 => ?_)
              simp only [List.cons_append, List.nil_append]
              refine st_dup C.cx (dk DX2_init_0 15 rfl) rfl ?_
              refine st_callN C (k_X1_init l G) mf_X1_init mi_X1_init ml_RX2_17 (dk DX2_init_0 16 rfl) [17] rfl rfl rfl rfl (Nat.le_of_ble_eq_true rfl) ⟨Nat.le_of_ble_eq_true rfl, Nat.le_of_ble_eq_true rfl⟩ ⟨Nat.le_of_ble_eq_true rfl, Nat.le_of_ble_eq_true rfl⟩ (fun r9 w9 v9 hq9 => ?_)
              obtain ⟨rfl, q1_13, q2_13, rfl, rfl⟩ := hq9
              simp only [put_cons, put_nil, List.set_cons_zero, List.set_cons_succ, List.cons_append, List.nil_append]
              refine st_astq C.cx (dk DX2_init_0 17 rfl) 1 17 rfl rfl (by unfold vp_in; decide) ?_
              simp only [List.set_cons_zero, List.set_cons_succ]
              refine st_iinc C.cx (dk DX2_init_0 18 rfl) rfl (iadd_ofInt _ (1) (1) (by decide)) (by decide) rfl ?_
              refine st_goto C.cx (tgt := 15) (dk DX2_init_0 19 rfl) (by decide) ?_
              refine st_iload_n C.cx (dk DX2_init_0 8 rfl) rfl ?_
              refine st_bipush C.cx (v := 6) (dk DX2_init_0 9 rfl) (by decide) ?_
              refine st_icmp_ge C.cx (tgt := 40) (dk DX2_init_0 10 rfl) (by decide) (fun c_18_6 => ?_) (fun c_18_6 => ?_)
              · refine st_eqQ C.cx (fun k => some (nth6 n2 n4 n6 n8 n10 n12 k)) 1 rfl (fun j hj => by
                  rcases (by omega : j = 0 ∨ j = 1 ∨ j = 2 ∨ j = 3 ∨ j = 4 ∨ j = 5) with rfl | rfl | rfl | rfl | rfl | rfl <;> rfl) ?_
                simp only [List.set_cons_zero, List.set_cons_succ]
                exact Rr _ _ _ _ _ _ _ _ (Nat.le_of_ble_eq_true rfl) (Nat.le_of_ble_eq_true rfl) (dk DX2_init_0 20 rfl) (.inl ⟨rfl, rfl, rfl, rfl⟩) rfl ⟨rfl, n1, (nth6 n2 n4 n6 n8 n10 n12), (nth6 q1_3 q1_5 q1_7 q1_9 q1_11 q1_13), (nth6 q2_3 q2_5 q2_7 q2_9 q2_11 q2_13), rfl, rfl⟩
              · exact absurd (by decide) c_18_6
set_option maxHeartbeats 8000000 in
set_option maxRecDepth 100000 in
theorem k_X5_init (l : Launch) (G : wG) {K : Nat}  : ConN l G yX5_init cX5_init 1 none 3 33 5311 [.ref K] [(K, ob 4 [.null, .null, .null, .null, .null])] (fun r w1 w2 => r = none ∧ ∃ (p q1 q2 o o1 o2 v v1 : Nat) (u u1 u2 : Nat → Nat) (t t1 t2 t3 t4 y y1 : Nat), w1 = [(K, ob 4 (kF p o v t y))] ∧ w2 = [(p, ob 0 (cR q1 q2 (mk7 0 0 (rOf 0 17 17) 4 0 0 0))), (q1, aI G 15 (fun _ => 0)), (q2, aI G 16 (fun _ => 0)), (o, ob 0 (cR o1 o2 (mk7 0 0 (rOf 0 17 17) 4 0 0 0))), (o1, aI G 15 (fun _ => 0)), (o2, aI G 16 (fun _ => 0)), (v, ob 1 (vF v1 0 0)), (v1, aQ G 6 (fun k => some (u k))), (u 0, ob 0 (cR (u1 0) (u2 0) (mk7 0 0 (rOf 0 17 17) 4 0 0 0))), (u1 0, aI G 15 (fun _ => 0)), (u2 0, aI G 16 (fun _ => 0)), (u 1, ob 0 (cR (u1 1) (u2 1) (mk7 0 0 (rOf 0 17 17) 4 0 0 0))), (u1 1, aI G 15 (fun _ => 0)), (u2 1, aI G 16 (fun _ => 0)), (u 2, ob 0 (cR (u1 2) (u2 2) (mk7 0 0 (rOf 0 17 17) 4 0 0 0))), (u1 2, aI G 15 (fun _ => 0)), (u2 2, aI G 16 (fun _ => 0)), (u 3, ob 0 (cR (u1 3) (u2 3) (mk7 0 0 (rOf 0 17 17) 4 0 0 0))), (u1 3, aI G 15 (fun _ => 0)), (u2 3, aI G 16 (fun _ => 0)), (u 4, ob 0 (cR (u1 4) (u2 4) (mk7 0 0 (rOf 0 17 17) 4 0 0 0))), (u1 4, aI G 15 (fun _ => 0)), (u2 4, aI G 16 (fun _ => 0)), (u 5, ob 0 (cR (u1 5) (u2 5) (mk7 0 0 (rOf 0 17 17) 4 0 0 0))), (u1 5, aI G 15 (fun _ => 0)), (u2 5, aI G 16 (fun _ => 0)), (t, ob 2 (sF t1 t2 t3 t4 0 0)), (t1, aI G 4624 (fun _ => 0)), (t2, aJ G 256 (fun _ => 0)), (t3, aI G 16 (fun _ => 0)), (t4, aI G 16 (fun _ => 0)), (y, ob 3 (tF y1 0 0 0)), (y1, aI G 60 (fun _ => 0))]) := by
  refine ConN.mk (by decide +kernel) (Nat.le_of_ble_eq_true rfl) (fun P C Rr => ?_)
  refine st_aload_n C.cx (dk DX5_init_0 0 rfl) rfl ?_
  refine st_oi C.cx oi_RX5_1 (dk DX5_init_0 1 rfl) (Nat.le_of_ble_eq_true rfl) ⟨Nat.le_of_ble_eq_true rfl, Nat.le_of_ble_eq_true rfl⟩ ?_
  refine st_aload_n C.cx (dk DX5_init_0 2 rfl) rfl ?_
  refine st_new C.cx nw_RX5_7 (dk DX5_init_0 3 rfl) ⟨Nat.le_of_ble_eq_true rfl, Nat.le_of_ble_eq_true rfl⟩ (fun n1 => ?_)
  simp only [List.cons_append, List.nil_append]
  refine st_dup C.cx (dk DX5_init_0 4 rfl) rfl ?_
  refine st_callN C (k_X1_init l G) mf_X1_init mi_X1_init ml_RX5_9 (dk DX5_init_0 5 rfl) [1] rfl rfl rfl rfl (Nat.le_of_ble_eq_true rfl) ⟨Nat.le_of_ble_eq_true rfl, Nat.le_of_ble_eq_true rfl⟩ ⟨Nat.le_of_ble_eq_true rfl, Nat.le_of_ble_eq_true rfl⟩ (fun r9 w9 v9 hq9 => ?_)
  obtain ⟨rfl, q1_2, q2_2, rfl, rfl⟩ := hq9
  simp only [put_cons, put_nil, List.set_cons_zero, List.set_cons_succ, List.cons_append, List.nil_append]
  refine st_putF C.cx ff_RX5_10 fc_4 fw_4_0 (dk DX5_init_0 6 rfl) 0 rfl rfl rfl (Nat.le_of_ble_eq_true rfl) ?_
  simp only [List.set_cons_zero, List.set_cons_succ]
  refine st_aload_n C.cx (dk DX5_init_0 7 rfl) rfl ?_
  refine st_new C.cx nw_RX5_7 (dk DX5_init_0 8 rfl) ⟨Nat.le_of_ble_eq_true rfl, Nat.le_of_ble_eq_true rfl⟩ (fun n3 => ?_)
  simp only [List.cons_append, List.nil_append]
  refine st_dup C.cx (dk DX5_init_0 9 rfl) rfl ?_
  refine st_callN C (k_X1_init l G) mf_X1_init mi_X1_init ml_RX5_9 (dk DX5_init_0 10 rfl) [4] rfl rfl rfl rfl (Nat.le_of_ble_eq_true rfl) ⟨Nat.le_of_ble_eq_true rfl, Nat.le_of_ble_eq_true rfl⟩ ⟨Nat.le_of_ble_eq_true rfl, Nat.le_of_ble_eq_true rfl⟩ (fun r9 w9 v9 hq9 => ?_)
  obtain ⟨rfl, q1_4, q2_4, rfl, rfl⟩ := hq9
  simp only [put_cons, put_nil, List.set_cons_zero, List.set_cons_succ, List.cons_append, List.nil_append]
  refine st_putF C.cx ff_RX5_16 fc_4 fw_4_1 (dk DX5_init_0 11 rfl) 0 rfl rfl rfl (Nat.le_of_ble_eq_true rfl) ?_
  simp only [List.set_cons_zero, List.set_cons_succ]
  refine st_aload_n C.cx (dk DX5_init_0 12 rfl) rfl ?_
  refine st_new C.cx nw_RX5_19 (dk DX5_init_0 13 rfl) ⟨Nat.le_of_ble_eq_true rfl, Nat.le_of_ble_eq_true rfl⟩ (fun n5 => ?_)
  simp only [List.cons_append, List.nil_append]
  refine st_dup C.cx (dk DX5_init_0 14 rfl) rfl ?_
  refine st_callN C (k_X2_init l G) mf_X2_init mi_X2_init ml_RX5_21 (dk DX5_init_0 15 rfl) [7] rfl rfl rfl rfl (Nat.le_of_ble_eq_true rfl) ⟨Nat.le_of_ble_eq_true rfl, Nat.le_of_ble_eq_true rfl⟩ ⟨Nat.le_of_ble_eq_true rfl, Nat.le_of_ble_eq_true rfl⟩ (fun r9 w9 v9 hq9 => ?_)
  obtain ⟨rfl, v1_6, u_6, u1_6, u2_6, rfl, rfl⟩ := hq9
  simp only [put_cons, put_nil, List.set_cons_zero, List.set_cons_succ, List.cons_append, List.nil_append]
  refine st_putF C.cx ff_RX5_22 fc_4 fw_4_2 (dk DX5_init_0 16 rfl) 0 rfl rfl rfl (Nat.le_of_ble_eq_true rfl) ?_
  simp only [List.set_cons_zero, List.set_cons_succ]
  refine st_aload_n C.cx (dk DX5_init_0 17 rfl) rfl ?_
  refine st_new C.cx nw_RX5_26 (dk DX5_init_0 18 rfl) ⟨Nat.le_of_ble_eq_true rfl, Nat.le_of_ble_eq_true rfl⟩ (fun n7 => ?_)
  simp only [List.cons_append, List.nil_append]
  refine st_dup C.cx (dk DX5_init_0 19 rfl) rfl ?_
  refine st_callN C (k_X3_init l G) mf_X3_init mi_X3_init ml_RX5_28 (dk DX5_init_0 20 rfl) [27] rfl rfl rfl rfl (Nat.le_of_ble_eq_true rfl) ⟨Nat.le_of_ble_eq_true rfl, Nat.le_of_ble_eq_true rfl⟩ ⟨Nat.le_of_ble_eq_true rfl, Nat.le_of_ble_eq_true rfl⟩ (fun r9 w9 v9 hq9 => ?_)
  obtain ⟨rfl, t1_8, t2_8, t3_8, t4_8, rfl, rfl⟩ := hq9
  simp only [put_cons, put_nil, List.set_cons_zero, List.set_cons_succ, List.cons_append, List.nil_append]
  refine st_putF C.cx ff_RX5_29 fc_4 fw_4_3 (dk DX5_init_0 21 rfl) 0 rfl rfl rfl (Nat.le_of_ble_eq_true rfl) ?_
  simp only [List.set_cons_zero, List.set_cons_succ]
  refine st_aload_n C.cx (dk DX5_init_0 22 rfl) rfl ?_
  refine st_new C.cx nw_RX5_33 (dk DX5_init_0 23 rfl) ⟨Nat.le_of_ble_eq_true rfl, Nat.le_of_ble_eq_true rfl⟩ (fun n9 => ?_)
  simp only [List.cons_append, List.nil_append]
  refine st_dup C.cx (dk DX5_init_0 24 rfl) rfl ?_
  refine st_callN C (k_X4_init l G) mf_X4_init mi_X4_init ml_RX5_35 (dk DX5_init_0 25 rfl) [32] rfl rfl rfl rfl (Nat.le_of_ble_eq_true rfl) ⟨Nat.le_of_ble_eq_true rfl, Nat.le_of_ble_eq_true rfl⟩ ⟨Nat.le_of_ble_eq_true rfl, Nat.le_of_ble_eq_true rfl⟩ (fun r9 w9 v9 hq9 => ?_)
  obtain ⟨rfl, y1_10, rfl, rfl⟩ := hq9
  simp only [put_cons, put_nil, List.set_cons_zero, List.set_cons_succ, List.cons_append, List.nil_append]
  refine st_putF C.cx ff_RX5_36 fc_4 fw_4_4 (dk DX5_init_0 26 rfl) 0 rfl rfl rfl (Nat.le_of_ble_eq_true rfl) ?_
  simp only [List.set_cons_zero, List.set_cons_succ]
  exact Rr _ _ _ _ _ _ _ _ (Nat.le_of_ble_eq_true rfl) (Nat.le_of_ble_eq_true rfl) (dk DX5_init_0 27 rfl) (.inl ⟨rfl, rfl, rfl, rfl⟩) rfl ⟨rfl, n1, q1_2, q2_2, n3, q1_4, q2_4, n5, v1_6, u_6, u1_6, u2_6, n7, t1_8, t2_8, t3_8, t4_8, n9, y1_10, rfl, rfl⟩
def nth10 (a b c d e f g h i j : Nat) : Nat → Nat
  | 0 => a
  | 1 => b
  | 2 => c
  | 3 => d
  | 4 => e
  | 5 => f
  | 6 => g
  | 7 => h
  | 8 => i
  | _ => j
set_option maxHeartbeats 8000000 in
set_option maxRecDepth 100000 in
theorem k_X6_init (l : Launch) (G : wG) {M : Nat}  : ConN l G yX6_init cX6_init 1 none 1 10 19044 [.ref M] [(M, ob 5 [.null, .null, .null, .int 0, .null, .int 0, .int 0, .int 0, .int 0, .null, .null, .null, .null, .null, .null, .int 0, .int 0, .int 0])] (fun r w1 w2 => r = none ∧ ∃ A : Nat → Nat, w1 = [(M, ob 5 (mF A 0 0 0 0 0 0 0 0))] ∧ w2 = [(A 0, aI G 53 (upd (fun _ => 0) 0 4)), (A 1, aI G 53 (fun _ => 0)), (A 2, aI G 318 (fun _ => 0)), (A 3, aI G 60 (fun _ => 0)), (A 4, aI G 48 (fun _ => 0)), (A 5, aI G 4624 (fun _ => 0)), (A 6, aI G 4624 (fun _ => 0)), (A 7, aI G 4624 (fun _ => 0)), (A 8, aI G 4624 (fun _ => 0)), (A 9, aI G 16 (fun _ => 0))]) := by
  refine ConN.mk (by decide +kernel) (Nat.le_of_ble_eq_true rfl) (fun P C Rr => ?_)
  refine st_aload_n C.cx (dk DX6_init_0 0 rfl) rfl ?_
  refine st_oi C.cx oi_RX6_1 (dk DX6_init_0 1 rfl) (Nat.le_of_ble_eq_true rfl) ⟨Nat.le_of_ble_eq_true rfl, Nat.le_of_ble_eq_true rfl⟩ ?_
  refine st_aload_n C.cx (dk DX6_init_0 2 rfl) rfl ?_
  refine st_bipush C.cx (v := 53) (dk DX6_init_0 3 rfl) (by decide) ?_
  refine st_newI C.cx ac_int (N := 53) rfl (by decide) (dk DX6_init_0 4 rfl) ⟨Nat.le_of_ble_eq_true rfl, Nat.le_of_ble_eq_true rfl⟩ (fun n1 => ?_)
  simp only [List.cons_append, List.nil_append]
  refine st_putF C.cx ff_RX6_7 fc_5 fw_5_0 (dk DX6_init_0 5 rfl) 0 rfl rfl rfl (Nat.le_of_ble_eq_true rfl) ?_
  simp only [List.set_cons_zero, List.set_cons_succ]
  refine st_aload_n C.cx (dk DX6_init_0 6 rfl) rfl ?_
  refine st_bipush C.cx (v := 53) (dk DX6_init_0 7 rfl) (by decide) ?_
  refine st_newI C.cx ac_int (N := 53) rfl (by decide) (dk DX6_init_0 8 rfl) ⟨Nat.le_of_ble_eq_true rfl, Nat.le_of_ble_eq_true rfl⟩ (fun n2 => ?_)
  simp only [List.cons_append, List.nil_append]
  refine st_putF C.cx ff_RX6_13 fc_5 fw_5_1 (dk DX6_init_0 9 rfl) 0 rfl rfl rfl (Nat.le_of_ble_eq_true rfl) ?_
  simp only [List.set_cons_zero, List.set_cons_succ]
  refine st_aload_n C.cx (dk DX6_init_0 10 rfl) rfl ?_
  refine st_sipush C.cx (v := 318) (dk DX6_init_0 11 rfl) (by decide) ?_
  refine st_newI C.cx ac_int (N := 318) rfl (by decide) (dk DX6_init_0 12 rfl) ⟨Nat.le_of_ble_eq_true rfl, Nat.le_of_ble_eq_true rfl⟩ (fun n3 => ?_)
  simp only [List.cons_append, List.nil_append]
  refine st_putF C.cx ff_RX6_16 fc_5 fw_5_2 (dk DX6_init_0 13 rfl) 0 rfl rfl rfl (Nat.le_of_ble_eq_true rfl) ?_
  simp only [List.set_cons_zero, List.set_cons_succ]
  refine st_aload_n C.cx (dk DX6_init_0 14 rfl) rfl ?_
  refine st_bipush C.cx (v := 60) (dk DX6_init_0 15 rfl) (by decide) ?_
  refine st_newI C.cx ac_int (N := 60) rfl (by decide) (dk DX6_init_0 16 rfl) ⟨Nat.le_of_ble_eq_true rfl, Nat.le_of_ble_eq_true rfl⟩ (fun n4 => ?_)
  simp only [List.cons_append, List.nil_append]
  refine st_putF C.cx ff_RX6_19 fc_5 fw_5_4 (dk DX6_init_0 17 rfl) 0 rfl rfl rfl (Nat.le_of_ble_eq_true rfl) ?_
  simp only [List.set_cons_zero, List.set_cons_succ]
  refine st_aload_n C.cx (dk DX6_init_0 18 rfl) rfl ?_
  refine st_bipush C.cx (v := 48) (dk DX6_init_0 19 rfl) (by decide) ?_
  refine st_newI C.cx ac_int (N := 48) rfl (by decide) (dk DX6_init_0 20 rfl) ⟨Nat.le_of_ble_eq_true rfl, Nat.le_of_ble_eq_true rfl⟩ (fun n5 => ?_)
  simp only [List.cons_append, List.nil_append]
  refine st_putF C.cx ff_RX6_22 fc_5 fw_5_9 (dk DX6_init_0 21 rfl) 0 rfl rfl rfl (Nat.le_of_ble_eq_true rfl) ?_
  simp only [List.set_cons_zero, List.set_cons_succ]
  refine st_aload_n C.cx (dk DX6_init_0 22 rfl) rfl ?_
  refine st_sipush C.cx (v := 4624) (dk DX6_init_0 23 rfl) (by decide) ?_
  refine st_newI C.cx ac_int (N := 4624) rfl (by decide) (dk DX6_init_0 24 rfl) ⟨Nat.le_of_ble_eq_true rfl, Nat.le_of_ble_eq_true rfl⟩ (fun n6 => ?_)
  simp only [List.cons_append, List.nil_append]
  refine st_putF C.cx ff_RX6_25 fc_5 fw_5_10 (dk DX6_init_0 25 rfl) 0 rfl rfl rfl (Nat.le_of_ble_eq_true rfl) ?_
  simp only [List.set_cons_zero, List.set_cons_succ]
  refine st_aload_n C.cx (dk DX6_init_0 26 rfl) rfl ?_
  refine st_sipush C.cx (v := 4624) (dk DX6_init_0 27 rfl) (by decide) ?_
  refine st_newI C.cx ac_int (N := 4624) rfl (by decide) (dk DX6_init_0 28 rfl) ⟨Nat.le_of_ble_eq_true rfl, Nat.le_of_ble_eq_true rfl⟩ (fun n7 => ?_)
  simp only [List.cons_append, List.nil_append]
  refine st_putF C.cx ff_RX6_28 fc_5 fw_5_11 (dk DX6_init_0 29 rfl) 0 rfl rfl rfl (Nat.le_of_ble_eq_true rfl) ?_
  simp only [List.set_cons_zero, List.set_cons_succ]
  refine st_aload_n C.cx (dk DX6_init_0 30 rfl) rfl ?_
  refine st_sipush C.cx (v := 4624) (dk DX6_init_0 31 rfl) (by decide) ?_
  refine st_newI C.cx ac_int (N := 4624) rfl (by decide) (dk DX6_init_0 32 rfl) ⟨Nat.le_of_ble_eq_true rfl, Nat.le_of_ble_eq_true rfl⟩ (fun n8 => ?_)
  simp only [List.cons_append, List.nil_append]
  refine st_putF C.cx ff_RX6_31 fc_5 fw_5_12 (dk DX6_init_0 33 rfl) 0 rfl rfl rfl (Nat.le_of_ble_eq_true rfl) ?_
  simp only [List.set_cons_zero, List.set_cons_succ]
  refine st_aload_n C.cx (dk DX6_init_0 34 rfl) rfl ?_
  refine st_sipush C.cx (v := 4624) (dk DX6_init_0 35 rfl) (by decide) ?_
  refine st_newI C.cx ac_int (N := 4624) rfl (by decide) (dk DX6_init_0 36 rfl) ⟨Nat.le_of_ble_eq_true rfl, Nat.le_of_ble_eq_true rfl⟩ (fun n9 => ?_)
  simp only [List.cons_append, List.nil_append]
  refine st_putF C.cx ff_RX6_34 fc_5 fw_5_13 (dk DX6_init_0 37 rfl) 0 rfl rfl rfl (Nat.le_of_ble_eq_true rfl) ?_
  simp only [List.set_cons_zero, List.set_cons_succ]
  refine st_aload_n C.cx (dk DX6_init_0 38 rfl) rfl ?_
  refine st_bipush C.cx (v := 16) (dk DX6_init_0 39 rfl) (by decide) ?_
  refine st_newI C.cx ac_int (N := 16) rfl (by decide) (dk DX6_init_1 0 rfl) ⟨Nat.le_of_ble_eq_true rfl, Nat.le_of_ble_eq_true rfl⟩ (fun n10 => ?_)
  simp only [List.cons_append, List.nil_append]
  refine st_putF C.cx ff_RX6_37 fc_5 fw_5_14 (dk DX6_init_1 1 rfl) 0 rfl rfl rfl (Nat.le_of_ble_eq_true rfl) ?_
  simp only [List.set_cons_zero, List.set_cons_succ]
  refine st_aload_n C.cx (dk DX6_init_1 2 rfl) rfl ?_
  refine st_get C.cx fl_RX6_7 (dk DX6_init_1 3 rfl) 0 rfl rfl ?_
  refine st_iconst C.cx (v := 0) (dk DX6_init_1 4 rfl) (by decide) ?_
  refine st_iconst C.cx (v := 4) (dk DX6_init_1 5 rfl) (by decide) ?_
  refine st_iast C.cx (dk DX6_init_1 6 rfl) 1 rfl (by unfold vp_in; decide) ?_
  exact Rr _ _ _ _ _ _ _ _ (Nat.le_of_ble_eq_true rfl) (Nat.le_of_ble_eq_true rfl) (dk DX6_init_1 7 rfl) (.inl ⟨rfl, rfl, rfl, rfl⟩) rfl ⟨rfl, nth10 n1 n2 n3 n4 n5 n6 n7 n8 n9 n10, rfl, rfl⟩
