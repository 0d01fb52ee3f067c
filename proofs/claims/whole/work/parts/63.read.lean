/-! the landed class's reader takes a sign as the reader of texts does -/
theorem rKind_nI {ch : Nat} (h : ch < 127) : rKind (nI ch) = if ch = 46 then 0 else if 49 ≤ ch ∧ ch ≤ 53 then 0 else if ch = 124 then 1 else if 97 ≤ ch ∧ ch ≤ 101 then 2 else 3 := by
  have : ∀ ch, ch < 127 → rKind (nI ch) = if ch = 46 then 0 else if 49 ≤ ch ∧ ch ≤ 53 then 0 else if ch = 124 then 1 else if 97 ≤ ch ∧ ch ≤ 101 then 2 else 3 := by unfold rKind; decide +kernel
  exact this ch h
theorem tS_ext (s : mS) {kf df lf : mS} {s' : mS} (hk : ∀ c, c < 16 → s' (6 + c) = kf c) (hd : ∀ c, c < 15 → s' (22 + c) = df c) (hl : ∀ c, c < 16 → s' (37 + c) = lf c) (h0 : s' 0 = s 0) (h1 : s' 1 = 0) (h2 : s' 2 = 0) (h3 : s' 3 = s 3) (h4 : s' 4 = s 4) (h5 : s' 5 = s 5) : ∀ j, j < 53 → s' j = tS s kf df lf j := by
  intro j hj
  by_cases a : j < 6
  · rcases (by omega : j = 0 ∨ j = 1 ∨ j = 2 ∨ j = 3 ∨ j = 4 ∨ j = 5) with rfl | rfl | rfl | rfl | rfl | rfl
    · rw [tS_f s (by omega)]; exact h0
    · rw [tS_z s (by omega)]; exact h1
    · rw [tS_z s (by omega)]; exact h2
    · rw [tS_f s (by omega)]; exact h3
    · rw [tS_f s (by omega)]; exact h4
    · rw [tS_f s (by omega)]; exact h5
  · by_cases b : j < 22
    · obtain ⟨c, rfl⟩ : ∃ c, j = 6 + c := ⟨j - 6, by omega⟩
      rw [tS_k s (by omega)]; exact hk c (by omega)
    · by_cases d : j < 37
      · obtain ⟨c, rfl⟩ : ∃ c, j = 22 + c := ⟨j - 22, by omega⟩
        rw [tS_d s (by omega)]; exact hd c (by omega)
      · obtain ⟨c, rfl⟩ : ∃ c, j = 37 + c := ⟨j - 37, by omega⟩
        rw [tS_l s]; exact hl c (by omega)
/-- a change of one number beside what stays -/
theorem tS_upd (s : mS) {kf df lf kg dg lg : mS} {i v : Nat} (hi : 6 ≤ i) (hk : ∀ c, c < 16 → (if 6 + c = i then v else kf c) = kg c) (hd : ∀ c, c < 15 → (if 22 + c = i then v else df c) = dg c) (hl : ∀ c, c < 16 → (if 37 + c = i then v else lf c) = lg c) : ∀ j, j < 53 → updS (tS s kf df lf) i v j = tS s kg dg lg j := by
  refine tS_ext s (fun c hc => ?_) (fun c hc => ?_) (fun c hc => ?_) ?_ ?_ ?_ ?_ ?_ ?_
  · rw [← hk c hc]; unfold updS; split
    · rfl
    · exact tS_k s hc
  · rw [← hd c hc]; unfold updS; split
    · rfl
    · exact tS_d s hc
  · rw [← hl c hc]; unfold updS; split
    · rfl
    · exact tS_l s
  · rw [updS_n _ _ (by omega)]; exact tS_f s (by omega)
  · rw [updS_n _ _ (by omega)]; exact tS_z s (by omega)
  · rw [updS_n _ _ (by omega)]; exact tS_z s (by omega)
  · rw [updS_n _ _ (by omega)]; exact tS_f s (by omega)
  · rw [updS_n _ _ (by omega)]; exact tS_f s (by omega)
  · rw [updS_n _ _ (by omega)]; exact tS_f s (by omega)
theorem rd_step {s : mS} {ns lk ld : Nat → Int32} {c la dg : Nat} {kf df lf : mS} (hq : tOk (c, la, dg, kf, df, lf)) (h : CRep (tS s kf df lf) ns lk ld) {ch : Nat} (hch : ch < 127) (y1 : Nat) (tl : Int32) (q1 q2 : Nat) :
    (tStep ch (c, la, dg, kf, df, lf) = none ∧ rTB (nI ch) (nI c) (nI la) (ns 0) (ns 1) = 0 ∧ rTT y1 (nI ch) tl (nI c) (nI la) (ns 0) (ns 1) = tF y1 tl (nI c) (nI la) ∧ rTC q1 q2 (ns 0) (ns 1) (ns 2) (ns 3) (ns 4) (ns 5) (ns 6) (nI ch) (nI c) = cR q1 q2 ns ∧ rTK lk (nI ch) (nI c) (nI la) = lk ∧ rTD ld (nI ch) (nI c) (nI la) = ld) ∨
    (∃ (c' la' dg' : Nat) (kf' df' lf' : mS) (ns9 : Nat → Int32), tStep ch (c, la, dg, kf, df, lf) = some (c', la', dg', kf', df', lf') ∧ rTB (nI ch) (nI c) (nI la) (ns 0) (ns 1) = 1 ∧ rTT y1 (nI ch) tl (nI c) (nI la) (ns 0) (ns 1) = tF y1 tl (nI c') (nI la') ∧ rTC q1 q2 (ns 0) (ns 1) (ns 2) (ns 3) (ns 4) (ns 5) (ns 6) (nI ch) (nI c) = cR q1 q2 ns9 ∧ CRep (tS s kf' df' lf') ns9 (rTK lk (nI ch) (nI c) (nI la)) (rTD ld (nI ch) (nI c) (nI la))) := by
  obtain ⟨hc16, hla3, hc1, hdg2, hdgz, hz, hb⟩ := hq
  have hc16 : c ≤ 16 := hc16
  have hla3 : la ≤ 3 := hla3
  have hc1 : la ≠ 0 → 1 ≤ c := hc1
  have hdg2 : dg ≤ 2 := hdg2
  have hdgz : dg = nz kf 16 := hdgz
  have hkc : kf c = 0 := (hz c (Nat.le_refl _)).1
  have hkeys : rKeys (ns 0) (ns 1) = nI dg := by rw [h.keys.1, kcN_tS s 16 (Nat.le_refl _), hdgz]
  have hkn : kcN (tS s kf df lf) 16 = dg := by rw [kcN_tS s 16 (Nat.le_refl _), hdgz]
  have hge : (16 : Int32) ≤ nI c ↔ 16 ≤ c := ge_nI (a := 16) (i := c) (by decide) (by omega) rfl rfl
  have hlt : nI c < (16 : Int32) ↔ c < 16 := lt_nI (a := c) (i := 16) (by omega) (by decide) rfl rfl
  have hl1 : nI la = 1 ↔ la = 1 := eq_nI (a := la) (i := 1) (by omega) (by decide) rfl rfl
  have hl2 : nI la = 2 ↔ la = 2 := eq_nI (a := la) (i := 2) (by omega) (by decide) rfl rfl
  unfold rTB rTT rTC rTK rTD
  rw [rKind_nI hch]
  have hcm : 1 ≤ c → nI c - 1 = nI (c - 1) := fun h1 => by rw [show (1 : Int32) = nI 1 from rfl, pk_sub h1]
  have key : ∀ v, v ≤ 5 → (v = 0 ∨ dg < 2) → c < 16 → ∀ kg : mS, (∀ e, e < 16 → (if 6 + e = 6 + c then v else kf e) = kg e) → ∃ ns9, rPut q1 q2 (ns 0) (ns 1) (ns 2) (ns 3) (ns 4) (ns 5) (ns 6) (nI c) (nI v) = cR q1 q2 ns9 ∧ CRep (tS s kg df lf) ns9 lk ld := by
    intro v hv hr hcl kg hkg
    obtain ⟨ns9, e9, h9⟩ := h.put hcl hv (by rw [hkn]; omega) q1 q2
    exact ⟨ns9, e9, h9.congr (tS_upd s (by omega) hkg (fun e he => by rw [if_neg (by omega)]) (fun e he => by rw [if_neg (by omega)]))⟩
  by_cases a1 : ch = 46
  · subst a1
    rw [if_pos rfl]
    have hky : rKey (nI 46) = 0 := by decide
    simp only [hky]
    unfold rTkB rTkT rTkC rTkB
    by_cases z : 16 ≤ c
    · left
      rw [if_pos (hge.mpr z), if_neg (by decide), if_neg (by decide)]
      exact ⟨tStep_no (fun _ => by omega) (fun _ _ => by omega) (fun e => absurd e (by decide)) (fun e => absurd e (by decide)), (by first | rfl | trivial), (by first | rfl | trivial), (by first | rfl | trivial), (by first | rfl | trivial), (by first | rfl | trivial)⟩
    · right
      rw [if_neg (fun e => z (hge.mp e)), if_pos rfl, if_pos rfl, if_pos rfl, nI_1]
      obtain ⟨ns9, e9, h9⟩ := key 0 (by omega) (Or.inl rfl) (by omega) kf (fun e he => by
        by_cases x : e = c
        · subst x; rw [if_pos rfl, hkc]
        · rw [if_neg (by omega)])
      exact ⟨c + 1, 1, dg, kf, df, lf, ns9, tStep_dot (by omega), rfl, rfl, e9, h9⟩
  · rw [if_neg a1]
    by_cases a2 : 49 ≤ ch ∧ ch ≤ 53
    · rw [if_pos a2]
      have hky : rKey (nI ch) = nI (ch - 48) := by
        unfold rKey
        rw [if_neg (show ¬ nI ch = 46 from fun e => a1 ((eq_nI (a := ch) (i := 46) (by omega) (by decide) rfl rfl).mp e)), show (48 : Int32) = nI 48 from rfl, pk_sub (by omega)]
      have hk0 : ¬ nI (ch - 48) = 0 := fun e => by have := (z5 (by omega)).mp e; omega
      have hk2 : rKeys (ns 0) (ns 1) < 2 ↔ dg < 2 := by rw [hkeys]; exact lt_nI (a := dg) (i := 2) (by omega) (by decide) rfl rfl
      simp only [hky]
      unfold rTkB rTkT rTkC rTkB
      by_cases z : 16 ≤ c
      · left
        rw [if_pos (hge.mpr z), if_neg (by decide), if_neg (by decide)]
        exact ⟨tStep_no (fun e => absurd e a1) (fun _ _ => by omega) (fun e => by omega) (fun e => by omega), (by first | rfl | trivial), (by first | rfl | trivial), (by first | rfl | trivial), (by first | rfl | trivial), (by first | rfl | trivial)⟩
      · rw [if_neg (fun e => z (hge.mp e)), if_neg hk0]
        by_cases z2 : dg < 2
        · right
          rw [if_pos (hk2.mpr z2), if_pos rfl, if_pos rfl, nI_1]
          obtain ⟨ns9, e9, h9⟩ := key (ch - 48) (by omega) (Or.inr z2) (by omega) (updS kf c (ch - 48)) (fun e he => by
            by_cases x : e = c
            · subst x; rw [if_pos rfl, updS_s]
            · rw [if_neg (by omega), updS_n _ _ x])
          exact ⟨c + 1, 1, dg + 1, updS kf c (ch - 48), df, lf, ns9, tStep_dig a2.1 a2.2 (by omega) z2, rfl, rfl, e9, h9⟩
        · left
          rw [if_neg (fun e => z2 (hk2.mp e)), if_neg (by decide), if_neg (by decide)]
          exact ⟨tStep_no (fun e => absurd e a1) (fun _ _ => by omega) (fun e => by omega) (fun e => by omega), (by first | rfl | trivial), (by first | rfl | trivial), (by first | rfl | trivial), (by first | rfl | trivial), (by first | rfl | trivial)⟩
    · rw [if_neg a2]
      by_cases a3 : ch = 124
      · subst a3
        rw [if_pos rfl]
        simp only
        unfold rTlT rTlD rTlB
        by_cases z : la = 1
        · right
          have h1 := hc1 (by omega)
          rw [if_pos (hl1.mpr z), if_pos rfl, if_pos rfl, hcm h1]
          subst z
          refine ⟨c, 2, dg, kf, df, updS lf (c - 1) 1, ns, tStep_bar, rfl, rfl, rfl, (h.setLad (j := c - 1) (i := 1) (by omega) (by omega)).congr (tS_upd s (by omega) (fun e he => by rw [if_neg (by omega)]) (fun e he => by rw [if_neg (by omega)]) (fun e he => ?_))⟩
          by_cases x : e = c - 1
          · rw [x, if_pos rfl, updS_s]
          · rw [if_neg (by omega), updS_n _ _ x]
        · left
          rw [if_neg (fun e => z (hl1.mp e)), if_neg (by decide), if_neg (by decide)]
          exact ⟨tStep_no (fun e => absurd e (by decide)) (fun _ e => absurd e (by decide)) (fun _ => z) (fun _ e => absurd e (by decide)), (by first | rfl | trivial), (by first | rfl | trivial), (by first | rfl | trivial), (by first | rfl | trivial), (by first | rfl | trivial)⟩
      · rw [if_neg a3]
        by_cases a4 : 97 ≤ ch ∧ ch ≤ 101
        · rw [if_pos a4]
          simp only
          have hv : nI ch - 97 + 1 = nI (ch - 96) := by
            rw [show (97 : Int32) = nI 97 from rfl, pk_sub (by omega), nI_1]; congr 1; omega
          have hB : rTdB (nI la) (nI c) = if (la = 1 ∨ la = 2) ∧ c < 16 then 1 else 0 := by
            unfold rTdB
            by_cases z1 : la = 1
            · rw [if_pos (hl1.mpr z1)]
              by_cases z3 : c < 16
              · rw [if_pos (hlt.mpr z3), if_pos ⟨Or.inl z1, z3⟩]
              · rw [if_neg (fun e => z3 (hlt.mp e)), if_neg (fun e => z3 e.2)]
            · rw [if_neg (fun e => z1 (hl1.mp e))]
              by_cases z2 : la = 2
              · rw [if_pos (hl2.mpr z2)]
                by_cases z3 : c < 16
                · rw [if_pos (hlt.mpr z3), if_pos ⟨Or.inr z2, z3⟩]
                · rw [if_neg (fun e => z3 (hlt.mp e)), if_neg (fun e => z3 e.2)]
              · rw [if_neg (fun e => z2 (hl2.mp e)), if_neg (by omega)]
          unfold rTdT rTdK
          rw [hB]
          by_cases z : (la = 1 ∨ la = 2) ∧ c < 16
          · right
            have h1 := hc1 (by omega)
            rw [if_pos z, if_pos rfl, if_pos rfl, hcm h1, hv]
            refine ⟨c, 3, dg, kf, updS df (c - 1) (ch - 96), lf, ns, tStep_door a4.1 a4.2 z.1 z.2, rfl, rfl, rfl, (h.setLock (j := c - 1) (i := ch - 96) (by omega) (by omega)).congr (tS_upd s (by omega) (fun e he => by rw [if_neg (by omega)]) (fun e he => ?_) (fun e he => by rw [if_neg (by omega)]))⟩
            by_cases x : e = c - 1
            · rw [x, if_pos rfl, updS_s]
            · rw [if_neg (by omega), updS_n _ _ x]
          · left
            rw [if_neg z, if_neg (by decide), if_neg (by decide)]
            exact ⟨tStep_no (fun e => absurd e a1) (fun e1 e2 => absurd ⟨e1, e2⟩ a2) (fun e => absurd e a3) (fun _ _ => z), (by first | rfl | trivial), (by first | rfl | trivial), (by first | rfl | trivial), (by first | rfl | trivial), (by first | rfl | trivial)⟩
        · left
          rw [if_neg a4]
          exact ⟨tStep_no (fun e => absurd e a1) (fun e1 e2 => absurd ⟨e1, e2⟩ a2) (fun e => absurd e a3) (fun e1 e2 => absurd ⟨e1, e2⟩ a4), (by first | rfl | trivial), (by first | rfl | trivial), (by first | rfl | trivial), (by first | rfl | trivial), (by first | rfl | trivial)⟩
