/-! the state as numbers (0 length of a floor, 1 cell, 2 hand, 3 steps, 4 changes, 5 doors, 6.. keys, 22.. locks, 37.. ladders), and the graph of codes -/
abbrev mS : Type := Nat → Nat
def kAt (s : mS) (a : Nat) : Nat := if a = 16 then s 2 else s (6 + a)
def upN (s : mS) (c : Nat) : Option Nat := if 2 * s 0 * (c / s 0 + 1) - 1 - c < 16 ∧ 0 < s (37 + c) + s (37 + (2 * s 0 * (c / s 0 + 1) - 1 - c)) then some (2 * s 0 * (c / s 0 + 1) - 1 - c) else none
def dnN (s : mS) (c : Nat) : Option Nat := if c / s 0 = 0 then none else if 2 * s 0 * (c / s 0) - 1 - c < 16 ∧ 0 < s (37 + c) + s (37 + (2 * s 0 * (c / s 0) - 1 - c)) then some (2 * s 0 * (c / s 0) - 1 - c) else none
def ldN (s : mS) (c st : Nat) : Option Nat := if st = 0 then (if c = 0 then none else some (c - 1)) else if st = 1 then (if c + 1 < 16 then some (c + 1) else none) else if st = 2 then dnN s c else upN s c
def wyN (s : mS) (c st : Nat) : Nat := if st = 0 then s (22 + (c - 1)) else if st = 1 then s (22 + c) else 0
def hbN (b1 b2 : Nat) (t : bT) : Nat := if 0 < b1 ∧ t.2.1 = 16 then b1 else if 0 < b2 ∧ t.2.2 = 16 then b2 else 0
def mvN (b a c : Nat) : Nat := if 0 < b ∧ (a = c ∨ a = 16) then (if a = c then 16 else c) else a
def gM (s : mS) (b1 b2 : Nat) (t : bT) (st : Nat) : Option bT :=
  if st = 4 then (if (0 < b1 ∧ (t.2.1 = t.1 ∨ t.2.1 = 16)) ∨ (0 < b2 ∧ (t.2.2 = t.1 ∨ t.2.2 = 16)) then some (t.1, mvN b1 t.2.1 t.1, mvN b2 t.2.2 t.1) else none)
  else match ldN s t.1 st with
    | none => none
    | some nx => if wyN s t.1 st = 0 ∨ wyN s t.1 st = hbN b1 b2 t then some (nx, t.2.1, t.2.2) else none
def vM (b1 b2 : Nat) (t : bT) : Prop := t.1 < 16 ∧ t.2.1 ≤ 16 ∧ t.2.2 ≤ 16 ∧ (b1 = 0 → t.2.1 = 0) ∧ (b2 = 0 → t.2.2 = 0) ∧ (0 < b2 → t.2.1 ≠ t.2.2)
def emN (t : bT) : Nat := 289 * t.1 + 17 * t.2.1 + t.2.2
theorem nd_len : ∀ (n : Nat) (L : List Nat), L.Nodup → (∀ x ∈ L, x < n) → L.length ≤ n
  | 0, L, _, h => by
    cases L with
    | nil => exact Nat.le_refl _
    | cons a l => exact absurd (h a List.mem_cons_self) (Nat.not_lt_zero a)
  | n + 1, L, hn, h => by
    have h1 := nd_len n (L.erase n) (hn.erase n) (fun x hx => by
      have h2 := (List.Nodup.mem_erase_iff hn).mp hx
      have := h x h2.2
      omega)
    rw [List.length_erase] at h1
    split at h1 <;> omega
theorem emN_lt {b1 b2 : Nat} {t : bT} (h : vM b1 b2 t) : emN t < 4624 := by obtain ⟨h1, h2, h3, -⟩ := h; unfold emN; omega
theorem emN_inj {b1 b2 : Nat} {t u : bT} (h : vM b1 b2 t) (h' : vM b1 b2 u) (e : emN t = emN u) : t = u := by
  obtain ⟨h1, h2, h3, -⟩ := h
  obtain ⟨g1, g2, g3, -⟩ := h'
  obtain ⟨a, b, c⟩ := t
  obtain ⟨x, y, z⟩ := u
  unfold emN at e
  simp only at *
  have e1 : a = x := by omega
  have e2 : b = y := by omega
  have e3 : c = z := by omega
  rw [e1, e2, e3]
theorem nodup_map {α β : Type} {f : α → β} {L : List α} (hn : L.Nodup) (h : ∀ a ∈ L, ∀ b ∈ L, f a = f b → a = b) : (L.map f).Nodup := by
  induction L with
  | nil => simp
  | cons a l ih =>
    rw [List.nodup_cons] at hn
    rw [List.map_cons, List.nodup_cons]
    refine ⟨fun hm => ?_, ih hn.2 (fun x hx y hy => h x (List.mem_cons_of_mem _ hx) y (List.mem_cons_of_mem _ hy))⟩
    obtain ⟨b, hb, he⟩ := List.mem_map.mp hm
    have := h b (List.mem_cons_of_mem _ hb) a List.mem_cons_self he
    subst this
    exact hn.1 hb
theorem vM_len {b1 b2 : Nat} (L : List bT) (hn : L.Nodup) (h : ∀ t ∈ L, vM b1 b2 t) : L.length ≤ 4624 := by
  have h1 : (L.map emN).Nodup := nodup_map hn (fun a ha b hb => emN_inj (h a ha) (h b hb))
  have h2 := nd_len 4624 _ h1 (fun x hx => by
    obtain ⟨t, ht, rfl⟩ := List.mem_map.mp hx
    exact emN_lt (h t ht))
  simpa using h2
theorem ldN_lt {s : mS} {c st nx : Nat} (hc : c < 16) (h : ldN s c st = some nx) : nx < 16 := by
  unfold ldN dnN upN at h
  split at h
  · split at h
    · cases h
    · have := Option.some.inj h; omega
  · split at h
    · split at h
      · have := Option.some.inj h; omega
      · cases h
    · split at h
      · split at h
        · cases h
        · split at h
          · rename_i h1; have := Option.some.inj h; omega
          · cases h
      · split at h
        · rename_i h1; have := Option.some.inj h; omega
        · cases h
theorem vM_step {s : mS} {b1 b2 : Nat} {t t' : bT} {st : Nat} (hb12 : 0 < b2 → 0 < b1) (h : vM b1 b2 t) (hg : gM s b1 b2 t st = some t') : vM b1 b2 t' := by
  obtain ⟨h1, h2, h3, h4, h5, h6⟩ := h
  obtain ⟨c, o, w⟩ := t
  simp only at *
  unfold gM at hg
  split at hg
  · split at hg
    · have e := Option.some.inj hg
      rw [← e]
      refine ⟨h1, ?_, ?_, ?_, ?_, ?_⟩
      · show mvN b1 o c ≤ 16; unfold mvN; split <;> (try split) <;> omega
      · show mvN b2 w c ≤ 16; unfold mvN; split <;> (try split) <;> omega
      · intro hb; show mvN b1 o c = 0; unfold mvN; rw [if_neg (by omega)]; exact h4 hb
      · intro hb; show mvN b2 w c = 0; unfold mvN; rw [if_neg (by omega)]; exact h5 hb
      · intro hb
        have := h6 hb
        show mvN b1 o c ≠ mvN b2 w c
        have hb1 := hb12 hb
        unfold mvN
        split <;> split <;> (try split) <;> (try split) <;> simp only at * <;> omega
    · cases hg
  · split at hg
    · cases hg
    · rename_i nx hnx
      split at hg
      · have e := Option.some.inj hg
        rw [← e]
        exact ⟨ldN_lt h1 hnx, h2, h3, h4, h5, h6⟩
      · cases hg
/-- the landed class's code of a triple: k1, k2 the bows of its two keys, sw whether they stand the other way round -/
def ecN (k1 k2 : Nat) (sw : Bool) (t : bT) : Nat := t.1 + 16 * (if k1 = 0 then 17 else if sw then t.2.2 else t.2.1) + 512 * (if k2 = 0 then 17 else if sw then t.2.1 else t.2.2)
def swOk (k1 k2 b1 b2 : Nat) (sw : Bool) : Prop := if sw = true then k1 = b2 ∧ k2 = b1 else k1 = b1 ∧ k2 = b2
theorem ecN_parts {b1 b2 k1 k2 : Nat} {sw : Bool} {t : bT} (h : vM b1 b2 t) : ∃ f g, ecN k1 k2 sw t = t.1 + 16 * f + 512 * g ∧ f ≤ 17 ∧ g ≤ 17 ∧ f = (if k1 = 0 then 17 else if sw then t.2.2 else t.2.1) ∧ g = (if k2 = 0 then 17 else if sw then t.2.1 else t.2.2) := by
  obtain ⟨h1, h2, h3, -⟩ := h
  refine ⟨_, _, rfl, ?_, ?_, rfl, rfl⟩ <;> (split <;> (try split) <;> omega)
theorem ecN_inj {b1 b2 k1 k2 : Nat} {sw : Bool} (hsw : swOk k1 k2 b1 b2 sw) {t u : bT} (h : vM b1 b2 t) (h' : vM b1 b2 u) (e : ecN k1 k2 sw t = ecN k1 k2 sw u) : t = u := by
  obtain ⟨f, g, e1, l1, l2, ef, eg⟩ := ecN_parts (k1 := k1) (k2 := k2) (sw := sw) h
  obtain ⟨f', g', e1', l1', l2', ef', eg'⟩ := ecN_parts (k1 := k1) (k2 := k2) (sw := sw) h'
  rw [e1, e1'] at e
  obtain ⟨h1, h2, h3, h4, h5, -⟩ := h
  obtain ⟨g1, g2, g3, g4, g5, -⟩ := h'
  obtain ⟨a, b, c⟩ := t
  obtain ⟨x, y, z⟩ := u
  simp only at *
  have q1 : a = x := by omega
  have q2 : f = f' := by omega
  have q3 : g = g' := by omega
  subst q1
  rw [ef, ef'] at q2
  rw [eg, eg'] at q3
  unfold swOk at hsw
  have q4 : b = y ∧ c = z := by
    cases sw <;> simp at hsw q2 q3 <;> obtain ⟨r1, r2⟩ := hsw <;> subst r1 <;> subst r2 <;> (split at q2 <;> split at q3 <;> constructor <;> simp_all)
  rw [q4.1, q4.2]
theorem rFst_ec {x f g : Nat} (hx : x < 16) (hf : f ≤ 17) (hg : g ≤ 17) : rFst (nI (x + 16 * f + 512 * g)) = nI f := by rw [rFst_nI (by omega)]; congr 1; omega
theorem rSnd_ec {x f g : Nat} (hx : x < 16) (hf : f ≤ 17) (hg : g ≤ 17) : rSnd (nI (x + 16 * f + 512 * g)) = nI g := by rw [rSnd_nI (by omega)]; congr 1; omega
theorem rCell_ec {x f g : Nat} (hx : x < 16) (hf : f ≤ 17) (hg : g ≤ 17) : rCell (nI (x + 16 * f + 512 * g)) = nI x := by rw [rCell_nI (by omega)]; congr 1; omega
def bwN (k1 k2 f g a : Nat) : Nat := if f = a then k1 else if g = a then k2 else 0
theorem rBow_ec {x f g k1 k2 a : Nat} (hx : x < 16) (hf : f ≤ 17) (hg : g ≤ 17) (ha : a ≤ 17) : rBow (nI k1) (nI k2) (nI (x + 16 * f + 512 * g)) (nI a) = nI (bwN k1 k2 f g a) := by
  unfold rBow bwN
  rw [rFst_ec hx hf hg, rSnd_ec hx hf hg]
  by_cases h1 : f = a
  · subst h1; simp
  · rw [if_neg (fun h => h1 ((nI_eq (by omega) (by omega)).mp h)), if_neg h1]
    by_cases h2 : g = a
    · subst h2; simp
    · rw [if_neg (fun h => h2 ((nI_eq (by omega) (by omega)).mp h)), if_neg h2]; rfl
theorem rMov_ec {x f g c : Nat} (hx : x < 16) (hf : f ≤ 17) (hg : g ≤ 17) (hc : c < 16) : rMov (nI (x + 16 * f + 512 * g)) (nI c) = nI (c + 16 * f + 512 * g) := by
  unfold rMov; rw [rFst_ec hx hf hg, rSnd_ec hx hf hg, rOf_nI hc (by omega) (by omega)]
def swN (a c : Nat) : Nat := if a = 16 then c else if a = c then 16 else a
theorem rSwP_nI {a c : Nat} (ha : a ≤ 17) (hc : c < 16) : rSwP (nI a) (nI c) = nI (swN a c) := by
  unfold rSwP swN
  by_cases h1 : a = 16
  · subst h1; rfl
  · rw [if_neg (show ¬ nI a = 16 from fun h => h1 ((eq_nI (a := a) (i := 16) (by omega) (by decide) rfl rfl).mp h)), if_neg h1]
    by_cases h2 : a = c
    · subst h2; rw [if_pos rfl, if_pos rfl]; rfl
    · rw [if_neg (fun h => h2 ((nI_eq (by omega) (by omega)).mp h)), if_neg h2]
theorem swN_le {a c : Nat} (ha : a ≤ 17) (hc : c < 16) : swN a c ≤ 17 := by unfold swN; split <;> (try split) <;> omega
theorem rSwp_ec {x f g : Nat} (hx : x < 16) (hf : f ≤ 17) (hg : g ≤ 17) : rSwp (nI (x + 16 * f + 512 * g)) = nI (x + 16 * swN f x + 512 * swN g x) := by
  unfold rSwp
  have h1 := swN_le hf hx
  have h2 := swN_le hg hx
  rw [rFst_ec hx hf hg, rSnd_ec hx hf hg, rCell_ec hx hf hg, rSwP_nI hf hx, rSwP_nI hg hx, rOf_nI hx (by omega) (by omega)]
theorem rIn_nI {c n : Nat} {m : Int32} (hc : c < 2 ^ 31) (hn : n < 2 ^ 31) (hm : m = nI n) : rIn (nI c) m = if c < n then 1 else 0 := by
  unfold rIn
  rw [if_neg (nI_pos hc)]
  subst hm
  by_cases h : c < n
  · rw [if_neg (fun h9 => by have := (nI_leI hn hc).mp h9; omega), if_pos h]
  · rw [if_pos ((nI_leI hn hc).mpr (by omega)), if_neg h]
theorem rLock_nI {lk : Nat → Int32} {c : Nat} (hc : c < 15) : rLock lk (nI c) = lk c := by
  unfold rLock
  rw [rIn_nI (n := 15) (m := 15) (by omega) (by decide) rfl, if_pos hc, if_neg (by decide), nI_clamp (by omega)]
theorem rFloor_nI {L c : Nat} (hL : 0 < L) (hL2 : L < 2 ^ 31) (hc : c < 2 ^ 31) : rFloor (nI L) (nI c) = nI (c / L) := by
  unfold rFloor
  rw [if_neg (nI_nle hL hL2), pk_div hc hL hL2]
def opI (o : Option Nat) : Int32 := match o with
  | none => -1
  | some k => nI k
theorem rByL_nI {ld : Nat → Int32} {d : Nat → Nat} (hd : ∀ j, j < 16 → ld j = nI (d j)) (hd2 : ∀ j, j < 16 → d j ≤ 1) {c o : Nat} (hc : c < 16) (ho : o < 2 ^ 31) : rByL ld (nI c) (nI o) = opI (if o < 16 ∧ 0 < d c + d o then some o else none) := by
  unfold rByL
  rw [if_neg (nI_pos (by omega)), if_neg (fun h => by have := (ge_nI (a := 16) (i := c) (by decide) (by omega) rfl rfl).mp h; omega), if_neg (nI_pos ho)]
  have e16 : (nI o < 16) ↔ o < 16 := lt_nI (a := o) (i := 16) (by omega) (by decide) rfl rfl
  by_cases h : o < 16
  · rw [if_pos (e16.mpr h), nI_clamp (by omega), nI_clamp (by omega), hd c hc, hd o h]
    have hz : ∀ j, j < 16 → (nI (d j) = 0 ↔ d j = 0) := fun j hj => eq_nI (a := d j) (i := 0) (by have := hd2 j hj; omega) (by decide) rfl rfl
    by_cases h1 : d c = 0
    · rw [if_pos ((hz c hc).mpr h1)]
      by_cases h2 : d o = 0
      · rw [if_pos ((hz o h).mpr h2), if_neg (by omega)]; rfl
      · rw [if_neg (fun h9 => h2 ((hz o h).mp h9)), if_pos ⟨h, by omega⟩]; rfl
    · rw [if_neg (fun h9 => h1 ((hz c hc).mp h9)), if_pos ⟨h, by omega⟩]; rfl
  · rw [if_neg (fun h9 => h (e16.mp h9)), if_neg (fun h9 => h h9.1)]; rfl
theorem above_ge {L c : Nat} (hL : 0 < L) : c + 1 ≤ 2 * L * (c / L + 1) := by
  have h1 := Nat.div_add_mod c L
  have h2 := Nat.mod_lt c hL
  have h3 : 2 * L * (c / L + 1) = 2 * (L * (c / L)) + 2 * L := by rw [Nat.mul_add, Nat.mul_assoc, Nat.mul_one]
  omega
theorem below_ge {L c : Nat} (hL : 0 < L) (h0 : ¬ c / L = 0) : c + 1 ≤ 2 * L * (c / L) := by
  have h1 := Nat.div_add_mod c L
  have h2 := Nat.mod_lt c hL
  have h3 : 2 * L * (c / L) = 2 * (L * (c / L)) := by rw [Nat.mul_assoc]
  have h4 : L * 1 ≤ L * (c / L) := Nat.mul_le_mul_left L (Nat.pos_of_ne_zero h0)
  omega
theorem rAbove_nI {ld : Nat → Int32} {s : mS} (hd : ∀ j, j < 16 → ld j = nI (s (37 + j))) (hd2 : ∀ j, j < 16 → s (37 + j) ≤ 1) (hL : 2 ≤ s 0) (hL2 : s 0 ≤ 8) {c : Nat} (hc : c < 16) : rAbove ld (nI (s 0)) (nI c) = opI (upN s c) := by
  unfold rAbove
  have h9 := above_ge (L := s 0) (c := c) (by omega)
  have hb : c / s 0 ≤ c := Nat.div_le_self c _
  have hb2 : 2 * s 0 * (c / s 0 + 1) ≤ 16 * 17 := Nat.mul_le_mul (by omega) (by omega)
  rw [rFloor_nI (by omega) (by omega) (by omega), show (2 : Int32) = nI 2 from rfl, pk_mul, nI_1, pk_mul, show (1 : Int32) = nI 1 from rfl, pk_sub (by omega), pk_sub (by omega), rByL_nI (d := fun j => s (37 + j)) hd hd2 hc (by omega)]
  rfl
theorem rBelow_nI {ld : Nat → Int32} {s : mS} (hd : ∀ j, j < 16 → ld j = nI (s (37 + j))) (hd2 : ∀ j, j < 16 → s (37 + j) ≤ 1) (hL : 2 ≤ s 0) (hL2 : s 0 ≤ 8) {c : Nat} (hc : c < 16) : rBelow ld (nI (s 0)) (nI c) = opI (dnN s c) := by
  unfold rBelow dnN
  have hb : c / s 0 ≤ c := Nat.div_le_self c _
  have hb2 : 2 * s 0 * (c / s 0) ≤ 16 * 16 := Nat.mul_le_mul (by omega) (by omega)
  rw [rFloor_nI (by omega) (by omega) (by omega), show (2 : Int32) = nI 2 from rfl, pk_mul, pk_mul, show (1 : Int32) = nI 1 from rfl]
  by_cases h0 : c / s 0 = 0
  · rw [if_pos h0, h0, Nat.mul_zero]
    have hneg : nI 0 - nI 1 - nI c < 0 := by
      rw [show nI 0 - nI 1 = -nI 1 by decide]
      rw [Int32.lt_iff_toInt_lt]
      have : ∀ c, c < 16 → (-nI 1 - nI c).toInt < (0 : Int32).toInt := by decide +kernel
      exact this c hc
    unfold rByL
    rw [if_neg (nI_pos (by omega)), if_neg (fun h => by have := (ge_nI (a := 16) (i := c) (by decide) (by omega) rfl rfl).mp h; omega), if_pos hneg]
    rfl
  · have h9 := below_ge (L := s 0) (c := c) (by omega) h0
    rw [if_neg h0, pk_sub (by omega), pk_sub (by omega), rByL_nI (d := fun j => s (37 + j)) hd hd2 hc (by omega)]
