/-! the law: its entry -/
def sB : mS := fun j => if j = 0 then 4 else 0
theorem sB_ok : mOk sB := by
  refine ⟨by decide, by decide, by decide, ?_, ?_, ?_⟩ <;> decide +kernel
theorem sB_kp : KP sB 0 0 17 17 := ⟨by decide, by decide, by decide, by decide, by decide, by decide, fun _ => rfl, by decide +kernel⟩
theorem sB_cr : CRep sB (mk7 0 0 (rOf 0 17 17) 4 0 0 0) (fun _ => 0) (fun _ => 0) := by
  refine ⟨sB_ok, ?_, ?_, ⟨rfl, rfl, rfl, rfl⟩, 0, 0, 17, 17, sB_kp, rfl, rfl, by decide +kernel⟩
  · intro j hj
    have e : sB (22 + j) = 0 := by unfold sB; rw [if_neg (by omega)]
    rw [e]; rfl
  · intro j hj
    have e : sB (37 + j) = 0 := by unfold sB; rw [if_neg (by omega)]
    rw [e]; rfl
theorem sB_hd : hd53 (upd (fun _ => 0) 0 4) sB := by
  intro j hj
  by_cases h : j = 0
  · subst h; rw [pk_us]; rfl
  · rw [pk_un h]
    have e : sB j = 0 := by unfold sB; rw [if_neg h]
    rw [e]; rfl
set_option maxHeartbeats 8000000 in
set_option maxRecDepth 100000 in
theorem law_enter {l : Launch} {G : wG} (hlt : l.stackTraces = false) {L : Nat} {xs : Nat → Int32} {P : PT} {nm9 : String} {b : Nat} (C : Cv l G RL cL_law 9 nm9 room_1 (exL b L xs) P) (hL : L ≤ 1536) (hRl : Rl cL_law P) : P 0 0 0 [(0, .ref b)] [] [] := by
  refine st_new C.cx nw_RL_8 (dk DL_law_0 0 rfl) ⟨Nat.le_of_ble_eq_true rfl, Nat.le_of_ble_eq_true rfl⟩ (fun n1 => ?_)
  simp only [List.cons_append, List.nil_append]
  refine st_dup C.cx (dk DL_law_0 1 rfl) rfl ?_
  refine st_callN C (k_X5_init l G) mf_X5_init mi_X5_init ml_RL_70 (dk DL_law_0 2 rfl) [0] rfl rfl rfl rfl (Nat.le_of_ble_eq_true rfl) ⟨Nat.le_of_ble_eq_true rfl, Nat.le_of_ble_eq_true rfl⟩ ⟨Nat.le_of_ble_eq_true rfl, Nat.le_of_ble_eq_true rfl⟩ (fun r9 w9 v9 hq9 => ?_)
  obtain ⟨rfl, p, q1, q2, o, o1, o2, v, v1, u, u1, u2, t, t1, t2, t3, t4, y, y1, rfl, rfl⟩ := hq9
  simp only [put_cons, put_nil, List.set_cons_zero, List.set_cons_succ, List.cons_append, List.nil_append]
  refine st_astore_n C.cx (dk DL_law_0 3 rfl) (by decide) rfl ?_
  refine st_new C.cx nw_RL_71 (dk DL_law_0 4 rfl) ⟨Nat.le_of_ble_eq_true rfl, Nat.le_of_ble_eq_true rfl⟩ (fun n3 => ?_)
  simp only [List.cons_append, List.nil_append]
  refine st_dup C.cx (dk DL_law_0 5 rfl) rfl ?_
  refine st_callN C (k_X6_init l G) mf_X6_init mi_X6_init ml_RL_73 (dk DL_law_0 6 rfl) [34] rfl rfl rfl rfl (Nat.le_of_ble_eq_true rfl) ⟨Nat.le_of_ble_eq_true rfl, Nat.le_of_ble_eq_true rfl⟩ ⟨Nat.le_of_ble_eq_true rfl, Nat.le_of_ble_eq_true rfl⟩ (fun r9 w9 v9 hq9 => ?_)
  obtain ⟨rfl, A, rfl, rfl⟩ := hq9
  simp only [put_cons, put_nil, List.set_cons_zero, List.set_cons_succ, List.cons_append, List.nil_append]
  refine st_astore_n C.cx (dk DL_law_0 7 rfl) (by decide) rfl ?_
  refine st_iconst C.cx (v := 1) (dk DL_law_0 8 rfl) (by decide) ?_
  refine st_newJ C.cx ac_long (N := 1) rfl (by decide) (dk DL_law_0 9 rfl) ⟨Nat.le_of_ble_eq_true rfl, Nat.le_of_ble_eq_true rfl⟩ (fun n5 => ?_)
  simp only [List.cons_append, List.nil_append]
  refine st_astore_n C.cx (dk DL_law_0 10 rfl) (by decide) rfl ?_
  refine st_iconst C.cx (v := 0) (dk DL_law_0 11 rfl) (by decide) ?_
  refine st_istore C.cx (dk DL_law_0 12 rfl) (by decide) rfl ?_
  exact law_loop hlt C hL hRl 512 0 rfl sB 0 (fun _ => sB) 0 (fun _ => 0) (mk7 0 0 (rOf 0 17 17) 4 0 0 0) (fun _ => 0) (fun _ => 0) (mk7 0 0 (rOf 0 17 17) 4 0 0 0) (fun _ => 0) (fun _ => 0) 0 0 (fun _ => mk7 0 0 (rOf 0 17 17) 4 0 0 0) (fun _ _ => 0) (fun _ _ => 0) 0 0 (fun _ => 0) (fun _ => 0) (fun _ => 0) (fun _ => 0) 0 0 0 (fun _ => 0) 0 0 0 0 0 0 0 0 (upd (fun _ => 0) 0 4) (fun _ => 0) (fun _ => 0) (fun _ => 0) (fun _ => 0) (fun _ => 0) (fun _ => 0) (fun _ => 0) (fun _ => 0) (fun _ => 0) (fun _ => 0) ⟨sB_cr, ⟨0, by decide, rfl, rfl, by decide, fun i h => absurd h (Nat.not_lt_zero i)⟩, rfl, Nat.zero_le _, hdT_0 _ _, sB_hd, fun i h => absurd h (Nat.not_lt_zero i), rfl, rfl, hdT_0 _ _, Or.inl rfl⟩ 0 rfl
