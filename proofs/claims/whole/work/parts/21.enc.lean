/-! codes and entries as ints; the search's cells against the list -/
theorem nI_or (a b : Nat) : nI a ||| nI b = nI (a ||| b) := by
  apply Int32.toBitVec_inj.mp
  rw [Int32.toBitVec_or]
  show BitVec.ofNat 32 a ||| BitVec.ofNat 32 b = BitVec.ofNat 32 (a ||| b)
  rw [BitVec.ofNat_or]
theorem or_add {a b k : Nat} (h : a < 2 ^ k) : a ||| b * 2 ^ k = a + b * 2 ^ k := by
  have := Nat.two_pow_add_eq_or_of_lt h b
  rw [Nat.or_comm, Nat.mul_comm b, ← this]; omega
theorem nI_orS {a b : Nat} (k : Nat) (h : a < 2 ^ k) : nI a ||| nI (b * 2 ^ k) = nI (a + b * 2 ^ k) := by rw [nI_or, or_add h]
theorem rOf_nI {a b c : Nat} (ha : a < 16) (hb : b < 32) (hc : c < 32) : rOf (nI a) (nI b) (nI c) = nI (a + 16 * b + 512 * c) := by
  unfold rOf
  rw [pk_shlN (4 &&& 31) 4 (by decide) (by omega), pk_shlN (9 &&& 31) 9 (by decide) (by omega), nI_orS 4 (by omega), nI_orS 9 (by omega)]
  congr 1; omega
theorem rCell_nI {x : Nat} (h : x < 2 ^ 31) : rCell (nI x) = nI (x % 16) := pk_andN (by omega) 4 (by decide)
theorem rFst_nI {x : Nat} (h : x < 2 ^ 31) : rFst (nI x) = nI (x / 16 % 32) := by
  unfold rFst; rw [pk_shrN h (4 &&& 31) 4 (by decide), pk_andN (by omega) 5 (by decide)]
theorem rSnd_nI {x : Nat} (h : x < 2 ^ 31) : rSnd (nI x) = nI (x / 512 % 32) := by
  unfold rSnd; rw [pk_shrN h (9 &&& 31) 9 (by decide), pk_andN (by omega) 5 (by decide)]
theorem rCde_nI {x : Nat} (h : x < 2 ^ 31) : rCde (nI x) = nI (x % 16384) := pk_andN (by omega) 14 (by decide)
theorem rStp_nI {x : Nat} (h : x < 2 ^ 31) : rStp (nI x) = nI (x / 16384 % 8) := by
  unfold rStp; rw [pk_shrN h (14 &&& 31) 14 (by decide), pk_andN (by omega) 3 (by decide)]
theorem rBef_nI {x : Nat} (h : x < 2 ^ 31) : rBef (nI x) = nI (x / 131072) := pk_shrN h (17 &&& 31) 17 (by decide)
theorem rRow_nI {x : Nat} (h : x < 2 ^ 31) : rRow (nI x) = nI (x / 64 % 256) := by
  unfold rRow; rw [pk_shrN h (6 &&& 31) 6 (by decide), pk_andN (by omega) 8 (by decide)]
theorem rb_tp : ∀ k, k < 64 → ((1 : Int64) <<< ((nI k).toInt64 &&& 63)).toBitVec = BitVec.twoPow 64 k := by decide +kernel
theorem rBit_nI {x : Nat} (h : x < 2 ^ 31) : (rBit (nI x)).toBitVec = BitVec.twoPow 64 (x % 64) := by
  unfold rBit
  rw [pk_andN (by omega) 6 (by decide)]
  exact rb_tp _ (Nat.mod_lt _ (by decide))
theorem ent_nI {x s b : Nat} (hx : x < 16384) (hs : s < 8) (hb : b < 8192) : (nI x ||| (nI s <<< (14 &&& 31)) ||| (nI b <<< (17 &&& 31))) = nI (x + 16384 * s + 131072 * b) := by
  rw [pk_shlN (14 &&& 31) 14 (by decide) (by omega), pk_shlN (17 &&& 31) 17 (by decide) (by omega), nI_orS 14 (by omega), nI_orS 17 (by omega)]
  congr 1; omega
def sbit (f : Nat → Int64) (x : Nat) : Bool := (f (x / 64)).toBitVec.getLsbD (x % 64)
theorem lg_cmp0 (a b : Int64) : lg_cmp a b = 0 ↔ a = b := by
  unfold lg_cmp
  by_cases h : b < a
  · rw [if_pos h]
    constructor
    · intro h1; exact absurd h1 (by decide)
    · intro h1
      subst h1
      rw [Int64.lt_iff_toInt_lt] at h
      omega
  · rw [if_neg h]
    by_cases h2 : a = b
    · simp [h2]
    · simp [h2]
theorem seen_test {f : Nat → Int64} {x : Nat} (hx : x < 16384) : lg_cmp (f (rRow (nI x)).toNatClampNeg &&& rBit (nI x)) 0 = 0 ↔ sbit f x = false := by
  rw [lg_cmp0, rRow_nI (by omega), nI_clamp (by omega), show x / 64 % 256 = x / 64 by omega]
  unfold sbit
  constructor
  · intro h
    have h1 := congrArg Int64.toBitVec h
    rw [Int64.toBitVec_and, rBit_nI (by omega), BitVec.and_twoPow] at h1
    cases hb : (f (x / 64)).toBitVec.getLsbD (x % 64) with
    | false => rfl
    | true =>
      rw [hb, if_pos rfl] at h1
      have h2 := congrArg (fun v => v.getLsbD (x % 64)) h1
      simp [BitVec.getLsbD_twoPow, Nat.mod_lt] at h2
  · intro h
    apply Int64.toBitVec_inj.mp
    rw [Int64.toBitVec_and, rBit_nI (by omega), BitVec.and_twoPow, h]
    rfl
theorem seen_set {f : Nat → Int64} {x y : Nat} (hx : x < 16384) (hy : y < 16384) : sbit (vp_updL f (rRow (nI x)).toNatClampNeg (f (rRow (nI x)).toNatClampNeg ||| rBit (nI x))) y = (sbit f y || decide (x = y)) := by
  rw [rRow_nI (by omega), nI_clamp (by omega), show x / 64 % 256 = x / 64 by omega]
  unfold sbit
  by_cases h : y / 64 = x / 64
  · rw [h, pk_uLs, Int64.toBitVec_or, BitVec.getLsbD_or, rBit_nI (by omega), BitVec.getLsbD_twoPow]
    have h1 : decide (x % 64 < 64) = true := by simp [Nat.mod_lt]
    rw [h1, Bool.true_and]
    congr 1
    by_cases h2 : x = y
    · subst h2; simp
    · have : ¬ x % 64 = y % 64 := by omega
      simp [h2, this]
  · rw [pk_uLn h]
    have : ¬ x = y := fun e => h (by rw [e])
    simp [this]
/-- the search's cells hold the list Q -/
def ee (ec : bT → Nat) (e : bE) : Nat := ec e.1 + 16384 * e.2.1 + 131072 * e.2.2.1
def SRel (ec : bT → Nat) (Q : List bE) (sz rc : Int32) (en : Nat → Int32) (sn : Nat → Int64) (nd ln : Nat → Int32) : Prop :=
  sz = nI Q.length ∧ rc = nI (cnt Q 16) ∧ (∀ i e, Q[i]? = some e → en i = nI (ee ec e)) ∧ (∀ x, x < 16384 → (sbit sn x = true ↔ ∃ e ∈ Q, ec e.1 = x)) ∧ (∀ c, c < 16 → nd c = nI ((fi Q c).getD 0)) ∧ (∀ c, c < 16 → ln c = lnOf Q c)
theorem lnOf_m1 {Q : List bE} {c : Nat} (hl : Q.length < 2 ^ 30) (hd : ∀ i, i < Q.length → dst Q i < 2 ^ 30) : lnOf Q c = -1 ↔ fi Q c = none := by
  unfold lnOf
  cases h : fi Q c with
  | none => simp
  | some i =>
    obtain ⟨e, he, -⟩ := fi_lt h
    have h1 := hd i (List.getElem?_eq_some_iff.mp he).1
    constructor
    · intro h2
      have h3 := congrArg Int32.toInt h2
      simp only [nI_toInt (show dst Q i < 2 ^ 31 by omega)] at h3
      have : ((-1 : Int32)).toInt = -1 := by decide
      omega
    · intro h2; cases h2
theorem SRel.add {G : wG} {ec : bT → Nat} {V : bT → Prop} {Q : List bE} {sz rc : Int32} {en : Nat → Int32} {sn : Nat → Int64} {nd ln : Nat → Int32} (t t1 t2 t3 t4 : Nat) (h : SRel ec Q sz rc en sn nd ln) {c s b d : Nat} {u : bT} (hV : ∀ e ∈ Q, V e.1) (hu : V u) (hinj : ∀ a b, V a → V b → ec a = ec b → a = b) (hcell : u.1 < 16) (hec : ec u < 16384) (hem : ec u % 16 = u.1) (hs : s < 5) (hb : b < 4624) (hlen : u ∉ Q.map (·.1) → Q.length < 4624) (hlen2 : Q.length ≤ 4624) (hd : ∀ i, i < Q.length → dst Q i < 2 ^ 30) :
    ∃ (sz' rc' : Int32) (en' : Nat → Int32) (sn' : Nat → Int64) (nd' ln' : Nat → Int32), rAdd G t t1 t2 t3 t4 sz rc en sn nd ln (nI (ec u)) (nI s) (nI b) (nI d) = [(t, ob 2 (sF t1 t2 t3 t4 sz' rc')), (t1, aI G 4624 en'), (t2, aJ G 256 sn'), (t3, aI G 16 nd'), (t4, aI G 16 ln')] ∧ SRel ec (bAdd Q u s b d) sz' rc' en' sn' nd' ln' := by
  obtain ⟨h1, h2, h3, h4, h5, h6⟩ := h
  have hcl : rCell (nI (ec u)) = nI u.1 := by rw [rCell_nI (by omega), hem]
  have hclN : (rCell (nI (ec u))).toNatClampNeg = u.1 := by rw [hcl]; exact nI_clamp (by omega)
  have hin : u ∈ Q.map (·.1) ↔ sbit sn (ec u) = true := by
    rw [h4 _ hec]
    constructor
    · intro hm
      obtain ⟨e, he, rfl⟩ := List.mem_map.mp hm
      exact ⟨e, he, rfl⟩
    · intro ⟨e, he, hee⟩
      exact List.mem_map.mpr ⟨e, he, hinj _ _ (hV e he) hu hee⟩
  by_cases hm : u ∈ Q.map (·.1)
  · have hb1 : ¬ lg_cmp (sn (rRow (nI (ec u))).toNatClampNeg &&& rBit (nI (ec u))) 0 = 0 := by
      rw [seen_test hec, hin.mp hm]; decide
    refine ⟨sz, rc, en, sn, nd, ln, by rw [rAdd, if_neg hb1], ?_⟩
    unfold bAdd; rw [if_pos hm]
    exact ⟨h1, h2, h3, h4, h5, h6⟩
  · have hsb : sbit sn (ec u) = false := by
      cases hq : sbit sn (ec u) with
      | false => rfl
      | true => exact absurd (hin.mpr hq) hm
    have hb1 : lg_cmp (sn (rRow (nI (ec u))).toNatClampNeg &&& rBit (nI (ec u))) 0 = 0 := (seen_test hec).mpr hsb
    have hl := hlen hm
    have hb2 : sz < 4624 := (lt_nI (a := Q.length) (i := 4624) (by omega) (by decide) h1 rfl).mpr hl
    have hszN : sz.toNatClampNeg = Q.length := cl_nI h1 (by omega)
    have hen : ∀ i e, (bAdd Q u s b d)[i]? = some e → upd en sz.toNatClampNeg (nI (ec u) ||| (nI s <<< (14 &&& 31)) ||| (nI b <<< (17 &&& 31))) i = nI (ee ec e) := by
      intro i e hi
      unfold bAdd at hi
      rw [if_neg hm] at hi
      rw [hszN]
      by_cases hil : i < Q.length
      · rw [List.getElem?_append_left hil] at hi
        rw [pk_un (by omega)]
        exact h3 i e hi
      · have : i = Q.length := by
          have := (List.getElem?_eq_some_iff.mp hi).1
          simp at this; omega
        subst this
        simp at hi
        subst hi
        rw [pk_us, ent_nI hec (by omega) (by omega)]
        rfl
    have hsn : ∀ x, x < 16384 → (sbit (vp_updL sn (rRow (nI (ec u))).toNatClampNeg (sn (rRow (nI (ec u))).toNatClampNeg ||| rBit (nI (ec u)))) x = true ↔ ∃ e ∈ bAdd Q u s b d, ec e.1 = x) := by
      intro x hx
      rw [seen_set hec hx]
      unfold bAdd
      rw [if_neg hm, Bool.or_eq_true, h4 x hx]
      constructor
      · rintro (⟨e, he, hee⟩ | hq)
        · exact ⟨e, List.mem_append_left _ he, hee⟩
        · exact ⟨(u, s, b, d), List.mem_append_right _ (List.mem_singleton.mpr rfl), by simpa using hq⟩
      · rintro ⟨e, he, hee⟩
        rcases List.mem_append.mp he with h7 | h7
        · exact Or.inl ⟨e, h7, hee⟩
        · rw [List.mem_singleton.mp h7] at hee
          exact Or.inr (by simpa using hee)
    have hQ : bAdd Q u s b d = Q ++ [(u, s, b, d)] := by unfold bAdd; rw [if_neg hm]
    have hsz' : sz + 1 = nI (bAdd Q u s b d).length := by rw [hQ, h1, nI_1]; simp
    have hm1 := lnOf_m1 (c := u.1) (by omega) hd
    by_cases hf : ln (rCell (nI (ec u))).toNatClampNeg = -1
    · have hfn : fi Q u.1 = none := by rw [hclN, h6 _ hcell] at hf; exact hm1.mp hf
      refine ⟨sz + 1, rc + 1, _, _, _, _, by rw [rAdd, if_pos hb1, if_pos hb2, if_pos hf], hsz', ?_, hen, hsn, ?_, ?_⟩
      · rw [hQ, cnt_new (e := (u, s, b, d)) hfn, if_pos hcell, h2, nI_1]
      · intro c hc
        rw [hQ, hclN, fi_app1]
        by_cases hcu : c = u.1
        · subst hcu
          rw [pk_us, hfn, if_pos rfl, h1]; rfl
        · rw [pk_un hcu, if_neg (fun e => hcu e.symm), h5 c hc]
          cases fi Q c <;> rfl
      · intro c hc
        rw [hclN]
        by_cases hcu : c = u.1
        · subst hcu
          rw [pk_us]
          unfold lnOf
          rw [hQ, fi_app1, hfn, if_pos rfl]
          show nI d = nI (dst (Q ++ [(u, s, b, d)]) Q.length)
          unfold dst eAt
          simp
        · rw [pk_un hcu, h6 c hc]
          unfold lnOf
          rw [hQ, fi_app1, if_neg (fun e => hcu e.symm)]
          cases hq : fi Q c with
          | none => rfl
          | some i =>
            obtain ⟨e, he, -⟩ := fi_lt hq
            show nI (dst Q i) = nI (dst (Q ++ [(u, s, b, d)]) i)
            rw [dst_app (List.getElem?_eq_some_iff.mp he).1]
    · have hfn : (fi Q u.1).isSome = true := by
        cases hq : fi Q u.1 with
        | none => exact absurd (by rw [hclN, h6 _ hcell]; exact hm1.mpr hq) hf
        | some i => rfl
      refine ⟨sz + 1, rc, _, _, _, _, by rw [rAdd, if_pos hb1, if_pos hb2, if_neg hf], hsz', ?_, hen, hsn, ?_, ?_⟩
      · rw [hQ, cnt_old (e := (u, s, b, d)) hfn, h2]
      · intro c hc
        rw [hQ, fi_app1, h5 c hc]
        by_cases hcu : u.1 = c
        · subst hcu
          cases hq : fi Q u.1 with
          | none => rw [hq] at hfn; cases hfn
          | some i => rfl
        · rw [if_neg hcu]
          cases fi Q c <;> rfl
      · intro c hc
        rw [h6 c hc]
        unfold lnOf
        rw [hQ, fi_app1]
        cases hq : fi Q c with
        | none =>
          have hcu : ¬ u.1 = c := by
            intro e
            subst e
            rw [hq] at hfn
            cases hfn
          rw [if_neg hcu]
          rfl
        | some i =>
          obtain ⟨e, he, -⟩ := fi_lt hq
          show nI (dst Q i) = nI (dst (Q ++ [(u, s, b, d)]) i)
          rw [dst_app (List.getElem?_eq_some_iff.mp he).1]
