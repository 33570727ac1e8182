/-! the reference's programs -/
/-- the sign at a place of the text -/
def sg (t : Nat → Int32) (tl a : Nat) : Int32 := if a < tl then t a else nI 0
def dgB (t : Nat → Int32) (tl a : Nat) : Bool := inB (sg t tl a) (nI 48) (nI 57)
def dg (t : Nat → Int32) (tl a : Nat) : Nat := (sg t tl a).toNatClampNeg - 48
theorem dg_of {t : Nat → Int32} {tl a : Nat} (h : dgB t tl a = true) : sg t tl a = nI (48 + dg t tl a) ∧ dg t tl a ≤ 9 ∧ a < tl := by
  obtain ⟨k, h1, h2, h3⟩ := inB_nat (by decide) (by decide) h
  have h4 : dg t tl a = k - 48 := by unfold dg; rw [h3, nI_clamp (by omega)]
  refine ⟨by rw [h3, h4, show 48 + (k - 48) = k by omega], by omega, ?_⟩
  rcases Nat.lt_or_ge a tl with q | q
  · exact q
  · unfold sg at h3
    rw [if_neg (by omega), nI_eq (by decide) (by omega)] at h3
    omega
/-- a number is read on, with k digits at most -/
def nmG (t : Nat → Int32) (tl : Nat) : Nat → Nat → Nat → Nat × Nat
  | 0, v, a => (v, a)
  | k + 1, v, a => if 0 < v ∧ dgB t tl a = true then nmG t tl k (10 * v + dg t tl a) (a + 1) else (v, a)
def nm (t : Nat → Int32) (tl a : Nat) : Nat × Nat := nmG t tl 2 (dg t tl a) (a + 1)
theorem nmG_go {t : Nat → Int32} {tl k v a : Nat} (h : k < 2) (hv : 0 < v) (hd : dgB t tl a = true) : nmG t tl (2 - k) v a = nmG t tl (2 - (k + 1)) (10 * v + dg t tl a) (a + 1) := by
  rw [show 2 - k = (2 - (k + 1)) + 1 by omega, nmG, if_pos ⟨hv, hd⟩]
theorem nmG_no {t : Nat → Int32} {tl k v a : Nat} (h : ¬ 0 < v ∨ dgB t tl a = false) : nmG t tl k v a = (v, a) := by
  cases k with
  | zero => rfl
  | succ k => rw [nmG, if_neg (fun q => h.elim (fun h => h q.1) (fun h => by rw [h] at q; exact absurd q.2 (by decide)))]
theorem nmG_end {t : Nat → Int32} {tl k v a : Nat} (h : 2 ≤ k) : nmG t tl (2 - k) v a = (v, a) := by rw [show 2 - k = 0 by omega]; rfl
theorem num_step {v d : Nat} : nI (10 * v) + nI (48 + d) - nI 48 = nI (10 * v + d) := by rw [nI_add, pk_sub (by omega), show 10 * v + (48 + d) - 48 = 10 * v + d by omega]
theorem nmG_in {t : Nat → Int32} {tl : Nat} : ∀ {k v a : Nat}, a ≤ (nmG t tl k v a).2 ∧ (nmG t tl k v a).2 ≤ a + k ∧ (nmG t tl k v a).1 < (v + 1) * 10 ^ k
  | 0, v, a => by show a ≤ a ∧ a ≤ a + 0 ∧ v < (v + 1) * 10 ^ 0; omega
  | k + 1, v, a => by
    rw [nmG]
    by_cases c : 0 < v ∧ dgB t tl a = true
    · rw [if_pos c]
      obtain ⟨h1, h2, h3⟩ := nmG_in (t := t) (tl := tl) (k := k) (v := 10 * v + dg t tl a) (a := a + 1)
      obtain ⟨-, h4, -⟩ := dg_of c.2
      refine ⟨by omega, by omega, Nat.lt_of_lt_of_le h3 ?_⟩
      rw [Nat.pow_succ, Nat.mul_comm (10 ^ k) 10, ← Nat.mul_assoc]
      exact Nat.mul_le_mul_right _ (by omega)
    · rw [if_neg c]
      refine ⟨Nat.le_refl _, by omega, ?_⟩
      have : 1 ≤ 10 ^ (k + 1) := Nat.pos_of_ne_zero (by simp)
      show v < (v + 1) * 10 ^ (k + 1)
      calc v < (v + 1) * 1 := by omega
        _ ≤ (v + 1) * 10 ^ (k + 1) := Nat.mul_le_mul_left _ this
theorem nm_in {t : Nat → Int32} {tl a : Nat} (h : dgB t tl a = true) : a < (nm t tl a).2 ∧ (nm t tl a).2 ≤ a + 3 ∧ (nm t tl a).1 < 1000 := by
  obtain ⟨h1, h2, h3⟩ := nmG_in (t := t) (tl := tl) (k := 2) (v := dg t tl a) (a := a + 1)
  obtain ⟨-, h4, -⟩ := dg_of h
  refine ⟨h1, by unfold nm; omega, ?_⟩
  unfold nm
  have : (dg t tl a + 1) * 10 ^ 2 ≤ 10 * 10 ^ 2 := Nat.mul_le_mul_right _ (by omega)
  omega
/-- many slots are taken, one by one, as far as it goes: the last answer and the slots behind -/
def tmR : Nat → Int32 → (Nat → Int32) → Int32 × (Nat → Int32)
  | 0, a, g => (a, g)
  | j + 1, a, g => if a < 0 then (a, g) else tmR j (o3 (tk g).1) (tk g).2
theorem tmR_end {m k : Nat} {a : Int32} {g : Nat → Int32} (h : m ≤ k) : tmR (m - k) a g = (a, g) := by rw [show m - k = 0 by omega]; rfl
theorem tmR_neg {k : Nat} {a : Int32} {g : Nat → Int32} (h : a < 0) : tmR k a g = (a, g) := by
  cases k with
  | zero => rfl
  | succ k => rw [tmR, if_pos h]
theorem tmR_go {m k : Nat} {a : Int32} {g : Nat → Int32} (h : k < m) (ha : ¬ a < 0) : tmR (m - k) a g = tmR (m - (k + 1)) (o3 (tk g).1) (tk g).2 := by
  rw [show m - k = (m - (k + 1)) + 1 by omega, tmR, if_neg ha]
def tmA (f : Nat → Int32) (v : Int32) : Int32 × (Nat → Int32) := if inB v (nI 1) (nI 320) = true then tmR v.toNatClampNeg (nI 0) f else (-1, f)
theorem tmA_n {f : Nat → Int32} {v : Int32} (h : inB v (nI 1) (nI 320) = false) : tmA f v = (-1, f) := by unfold tmA; rw [h]; rfl
theorem tmA_m {f : Nat → Int32} {m : Nat} (h1 : 1 ≤ m) (h2 : m ≤ 320) : tmA f (nI m) = tmR m (nI 0) f := by
  unfold tmA
  rw [inB_of (by omega) h1 h2, nI_clamp (by omega)]
  rfl
/-- a command is done -/
def doA (f : Nat → Int32) (lt : Nat) (one other : Int32) : Int32 × (Nat → Int32) :=
  if lt = 116 then tmA f one else if lt = 102 then gbA f one other else if lt = 99 then clA f one else if lt = 114 then rsA f one else if lt = 98 then tiA f one else if lt = 100 then dmA f one else rpA f
def ltB (v : Int32) : Bool := decide (v = nI 116) || decide (v = nI 102) || decide (v = nI 99) || decide (v = nI 114) || decide (v = nI 98) || decide (v = nI 100) || decide (v = nI 97)
theorem ltB_t {v : Int32} (h : ltB v = true) : ∃ k, v = nI k ∧ (k = 116 ∨ k = 102 ∨ k = 99 ∨ k = 114 ∨ k = 98 ∨ k = 100 ∨ k = 97) := by
  unfold ltB at h
  simp only [Bool.or_eq_true, decide_eq_true_eq] at h
  rcases h with (((((h | h) | h) | h) | h) | h) | h
  · exact ⟨116, h, by omega⟩
  · exact ⟨102, h, by omega⟩
  · exact ⟨99, h, by omega⟩
  · exact ⟨114, h, by omega⟩
  · exact ⟨98, h, by omega⟩
  · exact ⟨100, h, by omega⟩
  · exact ⟨97, h, by omega⟩
/-- the end of a command: its sign, its work -/
def roE (f t : Nat → Int32) (tl a k one other a2 : Nat) : Bool × Nat × (Nat → Int32) :=
  if sg t tl a2 = nI 59 then (if (doA f k (nI one) (nI other)).1 < 0 then (false, a, (doA f k (nI one) (nI other)).2) else (true, a2 + 1, (doA f k (nI one) (nI other)).2)) else (false, a2, f)
/-- behind a command's first number -/
def roF (f t : Nat → Int32) (tl a k one a1 : Nat) : Bool × Nat × (Nat → Int32) :=
  if k = 102 ∧ sg t tl a1 = nI 45 then (if dgB t tl (a1 + 1) = true then roE f t tl a k one (nm t tl (a1 + 1)).1 (nm t tl (a1 + 1)).2 else (false, a1 + 1, f)) else roE f t tl a k one one a1
/-- behind a command's letter -/
def roL (f t : Nat → Int32) (tl a k : Nat) : Bool × Nat × (Nat → Int32) :=
  if k = 97 ∨ (k = 116 ∧ dgB t tl (a + 1) = false) then roF f t tl a k 1 (a + 1)
  else if dgB t tl (a + 1) = true then roF f t tl a k (nm t tl (a + 1)).1 (nm t tl (a + 1)).2 else (false, a + 1, f)
/-- a command is read and done: whether it could be, the place, the slots -/
def ro (f t : Nat → Int32) (tl a : Nat) : Bool × Nat × (Nat → Int32) :=
  if ltB (sg t tl a) = true then roL f t tl a (sg t tl a).toNatClampNeg else (false, a, f)
theorem ro_n {f t : Nat → Int32} {tl a : Nat} (h : ltB (sg t tl a) = false) : ro f t tl a = (false, a, f) := by unfold ro; rw [h]; rfl
theorem ro_k {f t : Nat → Int32} {tl a k : Nat} (h : ltB (sg t tl a) = true) (hk : sg t tl a = nI k) (h2 : k < 200) : ro f t tl a = roL f t tl a k := by
  unfold ro
  rw [h, hk, nI_clamp (by omega)]
  rfl
theorem roL_1 {f t : Nat → Int32} {tl a k : Nat} (h : k = 97 ∨ (k = 116 ∧ dgB t tl (a + 1) = false)) : roL f t tl a k = roF f t tl a k 1 (a + 1) := if_pos h
theorem roL_2 {f t : Nat → Int32} {tl a k : Nat} (h : ¬ k = 97) (h2 : dgB t tl (a + 1) = true) : roL f t tl a k = roF f t tl a k (nm t tl (a + 1)).1 (nm t tl (a + 1)).2 := by
  unfold roL
  rw [if_neg (fun q => q.elim h (fun q => by rw [h2] at q; exact absurd q.2 (by decide))), if_pos h2]
theorem roL_3 {f t : Nat → Int32} {tl a k : Nat} (h : ¬ k = 97) (h3 : ¬ k = 116) (h2 : dgB t tl (a + 1) = false) : roL f t tl a k = (false, a + 1, f) := by
  unfold roL
  rw [if_neg (fun q => q.elim h (fun q => h3 q.1)), h2]
  rfl
theorem roF_1 {f t : Nat → Int32} {tl a k one a1 : Nat} (h : ¬ k = 102 ∨ ¬ sg t tl a1 = nI 45) : roF f t tl a k one a1 = roE f t tl a k one one a1 := if_neg (fun q => h.elim (fun h => h q.1) (fun h => h q.2))
theorem roF_2 {f t : Nat → Int32} {tl a k one a1 : Nat} (h : k = 102) (h1 : sg t tl a1 = nI 45) (h2 : dgB t tl (a1 + 1) = true) : roF f t tl a k one a1 = roE f t tl a k one (nm t tl (a1 + 1)).1 (nm t tl (a1 + 1)).2 := by
  unfold roF
  rw [if_pos ⟨h, h1⟩, if_pos h2]
theorem roF_3 {f t : Nat → Int32} {tl a k one a1 : Nat} (h : k = 102) (h1 : sg t tl a1 = nI 45) (h2 : dgB t tl (a1 + 1) = false) : roF f t tl a k one a1 = (false, a1 + 1, f) := by
  unfold roF
  rw [if_pos ⟨h, h1⟩, h2]
  rfl
theorem roE_1 {f t : Nat → Int32} {tl a k one other a2 : Nat} (h : ¬ sg t tl a2 = nI 59) : roE f t tl a k one other a2 = (false, a2, f) := if_neg h
theorem roE_2 {f t : Nat → Int32} {tl a k one other a2 : Nat} (h : sg t tl a2 = nI 59) (h2 : (doA f k (nI one) (nI other)).1 < 0) : roE f t tl a k one other a2 = (false, a, (doA f k (nI one) (nI other)).2) := by
  unfold roE
  rw [if_pos h, if_pos h2]
theorem roE_3 {f t : Nat → Int32} {tl a k one other a2 : Nat} (h : sg t tl a2 = nI 59) (h2 : ¬ (doA f k (nI one) (nI other)).1 < 0) : roE f t tl a k one other a2 = (true, a2 + 1, (doA f k (nI one) (nI other)).2) := by
  unfold roE
  rw [if_pos h, if_neg h2]
theorem sg_59 {t : Nat → Int32} {tl a : Nat} {k : Nat} (h : sg t tl a = nI k) (hk : 0 < k) (hk2 : k < 1000) : a < tl := by
  rcases Nat.lt_or_ge a tl with q | q
  · exact q
  · unfold sg at h
    rw [if_neg (by omega), nI_eq (by decide) (by omega)] at h
    omega
/-- the commands from a on, n of them done before: the answer, the slots; j commands at most -/
def rnG (t : Nat → Int32) (tl : Nat) : Nat → Nat → Nat → (Nat → Int32) → Int32 × (Nat → Int32)
  | 0, _, n, f => (nI n, f)
  | j + 1, a, n, f => if a < tl then (if (ro f t tl a).1 = true then rnG t tl j (ro f t tl a).2.1 (n + 1) (ro f t tl a).2.2 else ((-1000) - nI (ro f t tl a).2.1, (ro f t tl a).2.2)) else (nI n, f)
def rnA (f t : Nat → Int32) (tl : Nat) : Int32 × (Nat → Int32) := rnG t tl 81 0 0 f
theorem rnG_end {t : Nat → Int32} {tl j a n : Nat} {f : Nat → Int32} (h : tl ≤ a) : rnG t tl j a n f = (nI n, f) := by
  cases j with
  | zero => rfl
  | succ j => rw [rnG, if_neg (by omega)]
theorem rnG_go {t : Nat → Int32} {tl j a n : Nat} {f : Nat → Int32} (h : a < tl) (hj : tl - a ≤ j) (hr : (ro f t tl a).1 = true) : rnG t tl j a n f = rnG t tl (j - 1) (ro f t tl a).2.1 (n + 1) (ro f t tl a).2.2 := by
  obtain ⟨i, rfl⟩ : ∃ i, j = i + 1 := ⟨j - 1, by omega⟩
  rw [rnG, if_pos h, if_pos hr]
  rfl
theorem rnG_no {t : Nat → Int32} {tl j a n : Nat} {f : Nat → Int32} (h : a < tl) (hj : tl - a ≤ j) (hr : (ro f t tl a).1 = false) : rnG t tl j a n f = ((-1000) - nI (ro f t tl a).2.1, (ro f t tl a).2.2) := by
  obtain ⟨i, rfl⟩ : ∃ i, j = i + 1 := ⟨j - 1, by omega⟩
  rw [rnG, if_pos h, hr]
  rfl
theorem dg_sub {t : Nat → Int32} {tl a : Nat} (h : dgB t tl a = true) : sg t tl a - nI 48 = nI (dg t tl a) := by
  rw [(dg_of h).1, pk_sub (by omega), show 48 + dg t tl a - 48 = dg t tl a by omega]
/-- what stays of the blocks -/
def keepB (f g : Nat → Int32) : Prop := ∀ j, 650 ≤ j → j < 666 → g j = f j
theorem keepB.inv {f g : Nat → Int32} (h : keepB f g) (hB : BInv f) : BInv g := by
  intro k hk h0
  rw [h _ (by omega) (by omega)] at h0
  obtain ⟨p, z, h1, h2, h3⟩ := hB k hk h0
  exact ⟨p, z, by rw [h _ (by omega) (by omega)]; exact h1, by rw [h _ (by omega) (by omega)]; exact h2, h3⟩
theorem keepB.rf {f : Nat → Int32} : keepB f f := fun _ _ _ => rfl
theorem keepB.tr {f g h : Nat → Int32} (h1 : keepB f g) (h2 : keepB g h) : keepB f h := fun j a b => (h2 j a b).trans (h1 j a b)
theorem keepB.bec {f : Nat → Int32} {P : Nat → Bool} {v : Nat → Int32} : keepB f (bec f P v) := fun j a b => bec_own (by omega) (by omega)
theorem keepB.upd {f : Nat → Int32} {j : Nat} {x : Int32} (h : j < 650 ∨ 666 ≤ j) : keepB f (upd f j x) := fun i a b => upd_n _ _ (by omega)
theorem keepB.bc1 {f : Nat → Int32} {s : Nat} {x : Int32} (h : s < 320) : keepB f (bc1 f s x) := by
  rw [bc1_bec h]
  exact keepB.bec
theorem keepB_gt : ∀ {n w : Nat} {f : Nat → Int32}, w + n ≤ 10 → keepB f (gt n w f).2
  | 0, _, _, _ => keepB.rf
  | n + 1, w, f, h => by
    rw [gt]
    by_cases c : f (640 + w) = nI 0
    · rw [if_pos c]
      cases ho : fi (lkP f) w with
      | none => exact ((keepB.upd (by omega) : keepB f (lkP f)).tr (keepB.upd (by omega))).tr (keepB_gt (by omega))
      | some s =>
        have := fi_lt ho
        exact (keepB.upd (by omega) : keepB f (lkP f)).tr (keepB.bc1 (by omega))
    · rw [if_neg c]
      exact keepB_gt (by omega)
theorem keepB_tk {f : Nat → Int32} : keepB f (tk f).2 := by
  have h0 : keepB f (gt 10 0 f).2 := keepB_gt (by omega)
  cases h1 : (gt 10 0 f).1 with
  | some s =>
    rw [tk_1 h1]
    exact h0
  | none =>
    by_cases h2 : 0 < clN (gt 10 0 f).2 10
    · rw [tk_2 h1 h2]
      exact (h0.tr keepB.bec).tr (keepB_gt (by omega))
    · rw [tk_3 h1 h2]
      exact h0.tr keepB.bec
theorem keepB_tmR : ∀ {j : Nat} {a : Int32} {g : Nat → Int32}, keepB g (tmR j a g).2
  | 0, _, _ => keepB.rf
  | j + 1, a, g => by
    rw [tmR]
    by_cases h : a < 0
    · rw [if_pos h]
      exact keepB.rf
    · rw [if_neg h]
      exact keepB_tk.tr keepB_tmR
theorem keepB_tm {f : Nat → Int32} {v : Int32} : keepB f (tmA f v).2 := by
  unfold tmA
  split
  · exact keepB_tmR
  · exact keepB.rf
theorem keepB_gb {f : Nat → Int32} {a b : Int32} : keepB f (gbA f a b).2 := by
  unfold gbA
  split
  · exact keepB.bec
  · exact keepB.rf
theorem keepB_cl {f : Nat → Int32} {v : Int32} : keepB f (clA f v).2 := by
  unfold clA
  split
  · exact keepB.bec
  · exact keepB.rf
theorem BInv_rs {f : Nat → Int32} {v : Int32} (hB : BInv f) : BInv (rsA f v).2 := by
  cases hs : szB v with
  | false => rw [rsA_n hs]; exact hB
  | true =>
    obtain ⟨z, rfl, hz⟩ := szB_t hs
    cases hu : ub f with
    | none => rw [rsA_0 hz (Or.inl hu)]; exact hB
    | some b =>
      cases hp : pl f z with
      | none => rw [rsA_0 hz (Or.inr hp)]; exact hB
      | some p =>
        rw [rsA_s hz hu hp]
        obtain ⟨h1, h2, -⟩ := pl_ok hz hp
        obtain ⟨-, hb, -⟩ := ls1_some hu
        have hk : ∀ j, 650 ≤ j → rsF (blk f b p z) b p z j = blk f b p z j := fun j hj => by
          unfold rsF
          rw [bec_own (by omega) (by omega)]
          unfold ow
          rw [if_neg (by omega)]
        intro k hk8 h0
        by_cases e : k = b
        · refine ⟨p, z, ?_, ?_, hz, h2, h1⟩
          · show rsF _ _ _ _ _ = _
            rw [hk _ (by omega), e]
            unfold blk
            rw [upd_n _ _ (by omega), upd_s]
          · show rsF _ _ _ _ _ = _
            rw [hk _ (by omega), e]
            unfold blk
            rw [upd_s]
        · have h3 : ∀ j, (j = 650 + 2 * k ∨ j = 650 + 2 * k + 1) → rsF (blk f b p z) b p z j = f j := fun j hj => by
            rw [hk j (by omega)]
            unfold blk
            rw [upd_n _ _ (by omega), upd_n _ _ (by omega)]
          have h0' : 0 < rsF (blk f b p z) b p z (650 + 2 * k + 1) := h0
          rw [h3 _ (Or.inr rfl)] at h0'
          obtain ⟨p', z', g1, g2, g3⟩ := hB k hk8 h0'
          exact ⟨p', z', (h3 _ (Or.inl rfl)).trans g1, (h3 _ (Or.inr rfl)).trans g2, g3⟩
theorem keepB_ti {f : Nat → Int32} {v : Int32} (hB : BInv f) : keepB f (tiA f v).2 := by
  cases hs : isB f v with
  | false => rw [tiA_n hs]; exact keepB.rf
  | true =>
    obtain ⟨k, hk, rfl, h0⟩ := isB_t hs
    obtain ⟨p, z, hp, hz, hok, hmod, hpz⟩ := hB k (by omega) h0
    rw [tiA_s hk hs hp hz hpz]
    cases hq : kp f p z with
    | none => exact keepB.rf
    | some s =>
      obtain ⟨-, h2, -, -⟩ := ls1_some hq
      exact keepB.bc1 (by omega)
theorem keepB_dm {f : Nat → Int32} {v : Int32} : keepB f (dmA f v).2 := by
  cases hs : inB v (nI 0) (nI 9) with
  | false => rw [dmA_n hs]; exact keepB.rf
  | true =>
    obtain ⟨w, -, hw, rfl⟩ := inB_nat (by decide) (by decide) hs
    rw [dmA_s hw]
    exact keepB.upd (by omega)
theorem keepB_rp {f : Nat → Int32} : keepB f (rpA f).2 := fun j a b => if_neg (by omega)
theorem BInv_do {f : Nat → Int32} {k : Nat} {x y : Int32} (hB : BInv f) : BInv (doA f k x y).2 := by
  unfold doA
  split
  · exact keepB_tm.inv hB
  · split
    · exact keepB_gb.inv hB
    · split
      · exact keepB_cl.inv hB
      · split
        · exact BInv_rs hB
        · split
          · exact (keepB_ti hB).inv hB
          · split
            · exact keepB_dm.inv hB
            · exact keepB_rp.inv hB
theorem roE_in {f t : Nat → Int32} {tl a k one other a2 : Nat} (hB : BInv f) : BInv (roE f t tl a k one other a2).2.2 ∧ ((roE f t tl a k one other a2).1 = true → (roE f t tl a k one other a2).2.1 = a2 + 1 ∧ a2 < tl) := by
  by_cases h : sg t tl a2 = nI 59
  · by_cases h2 : (doA f k (nI one) (nI other)).1 < 0
    · rw [roE_2 h h2]
      exact ⟨BInv_do hB, fun q => Bool.noConfusion q⟩
    · rw [roE_3 h h2]
      exact ⟨BInv_do hB, fun _ => ⟨rfl, sg_59 h (by decide) (by decide)⟩⟩
  · rw [roE_1 h]
    exact ⟨hB, fun q => Bool.noConfusion q⟩
theorem roF_in {f t : Nat → Int32} {tl a k one a1 : Nat} (hB : BInv f) : BInv (roF f t tl a k one a1).2.2 ∧ ((roF f t tl a k one a1).1 = true → a1 < (roF f t tl a k one a1).2.1 ∧ (roF f t tl a k one a1).2.1 ≤ tl) := by
  by_cases h : k = 102 ∧ sg t tl a1 = nI 45
  · cases h2 : dgB t tl (a1 + 1) with
    | true =>
      rw [roF_2 h.1 h.2 h2]
      obtain ⟨g1, g2⟩ := roE_in (t := t) (tl := tl) (a := a) (k := k) (one := one) (other := (nm t tl (a1 + 1)).1) (a2 := (nm t tl (a1 + 1)).2) hB
      have := nm_in h2
      exact ⟨g1, fun q => by
        obtain ⟨g3, g4⟩ := g2 q
        omega⟩
    | false =>
      rw [roF_3 h.1 h.2 h2]
      exact ⟨hB, fun q => Bool.noConfusion q⟩
  · have h' : ¬ k = 102 ∨ ¬ sg t tl a1 = nI 45 := by
      by_cases e : k = 102
      · exact Or.inr (fun q => h ⟨e, q⟩)
      · exact Or.inl e
    rw [roF_1 h']
    obtain ⟨g1, g2⟩ := roE_in (t := t) (tl := tl) (a := a) (k := k) (one := one) (other := one) (a2 := a1) hB
    exact ⟨g1, fun q => by
      obtain ⟨g3, g4⟩ := g2 q
      omega⟩
theorem ro_in {f t : Nat → Int32} {tl a : Nat} (hB : BInv f) : BInv (ro f t tl a).2.2 ∧ ((ro f t tl a).1 = true → a < (ro f t tl a).2.1 ∧ (ro f t tl a).2.1 ≤ tl) := by
  cases h : ltB (sg t tl a) with
  | false =>
    rw [ro_n h]
    exact ⟨hB, fun q => Bool.noConfusion q⟩
  | true =>
    obtain ⟨k, hk, hkk⟩ := ltB_t h
    rw [ro_k h hk (by omega)]
    by_cases c1 : k = 97 ∨ (k = 116 ∧ dgB t tl (a + 1) = false)
    · rw [roL_1 c1]
      obtain ⟨g1, g2⟩ := roF_in (t := t) (tl := tl) (a := a) (k := k) (one := 1) (a1 := a + 1) hB
      exact ⟨g1, fun q => by have := g2 q; omega⟩
    · cases h2 : dgB t tl (a + 1) with
      | true =>
        rw [roL_2 (fun q => c1 (Or.inl q)) h2]
        obtain ⟨g1, g2⟩ := roF_in (t := t) (tl := tl) (a := a) (k := k) (one := (nm t tl (a + 1)).1) (a1 := (nm t tl (a + 1)).2) hB
        have := nm_in h2
        exact ⟨g1, fun q => by have := g2 q; omega⟩
      | false =>
        rw [roL_3 (fun q => c1 (Or.inl q)) (fun q => c1 (Or.inr ⟨q, h2⟩)) h2]
        exact ⟨hB, fun q => Bool.noConfusion q⟩
set_option maxHeartbeats 4000000 in
set_option maxRecDepth 100000 in
theorem c_X4_signAt {l : Launch} {D : va_G} {cI cG cC cR : ClassId} {h : Nat → Nat} {now past bef tri tex : Nat → Int32} {pasts ati : Int32} {tl : Nat} (htl : tl ≤ 80) {k1 : Nat} (hk1 : k1 < 1000) : CtI l yX4_signAt wsX4_signAt { frames := 0, cells := 0, slots := 0, locals := 0 } D (TY cI cG cC cR) [.ref (h 0), .int (nI k1)] (MW h cI now past pasts bef tri tex (nI tl) ati) (fun (_ : Unit) => MW h cI now past pasts bef tri tex (nI tl) ati) (fun (r : Int32) (_ : Unit) => r = sg tex tl k1) := by
  refine CtI.of (cc := cX4_signAt) (maxL := 2) (ty := .int) (by decide) rfl (Nat.le_of_ble_eq_true rfl) ?_
  intro P0 e0 s0 m0 a0 b0 t0 c0 A0 Q0 ls F hK hP hD hA RETN hl
  obtain ⟨hx, hb, hml, hown, hts⟩ := id F
  have hS : va_S A0 s0.heap s0.heap [] := va_S.rf
  have hl : lv_has ls 2 [(0, .ref (h 0)), (1, .int (nI k1))] := hl
  have lk102 := hts (.fieldLink RX4 102 "SlotMapsModel" "typed" "I") (by decide +kernel)
  have lk22 := hts (.fieldLink RX4 22 "SlotMapsModel" "text" "[I") (by decide +kernel)
  have hI4 : ∀ w ∈ u_ws RX4 TX4 8, w ∈ wsX4_signAt := by decide +kernel
  refine lv_iload_n hx hb dX4_signAt_0 rfl (lv_at hl 1 rfl) ?_
  refine lv_aload_n hx hb dX4_signAt_1 rfl (lv_at hl 0 rfl) ?_
  refine va_get (D := D) (ci := 4) (v := .int (nI tl)) (C := RX4) (T := TX4) (N := 8) hx hb hts hI4 hown hK.1 hP 0 rfl rfl 6 (by decide) lk102 (fun _ h9 => h9) rfl dX4_signAt_2 ?_
  refine lv_icmp_ge (tgt := 17) hx hb dX4_signAt_5 (by decide) (fun c5 => ?_) (fun c5 => ?_)
  · skip
    replace c5 : tl ≤ k1 := by rw [nI_leI (by omega) (by omega)] at c5; exact c5
    refine lv_iconst (v := (nI 0)) hx hb dX4_signAt_17 (by decide) ?_
    exact RETN _ _ (nI 0) () _ _ dX4_signAt_18 (rfl) (by unfold sg; first | rw [if_pos (by omega)] | rw [if_neg (by omega)]) hP hD hS
  · skip
    replace c5 : ¬ (tl ≤ k1) := by rw [nI_leI (by omega) (by omega)] at c5; exact c5
    refine lv_aload_n hx hb dX4_signAt_8 rfl (lv_at hl 0 rfl) ?_
    refine va_get (D := D) (ci := 4) (v := .ref (h 5)) (C := RX4) (T := TX4) (N := 8) hx hb hts hI4 hown hK.1 hP 0 rfl rfl 5 (by decide) lk22 (fun _ h9 => h9) rfl dX4_signAt_9 ?_
    refine lv_iload_n hx hb dX4_signAt_12 rfl (lv_at hl 1 rfl) ?_
    refine n_iald hx hb hK hP 5 0 rfl rfl (by decide) (by omega) dX4_signAt_13 ?_
    refine lv_goto (tgt := 18) hx hb dX4_signAt_14 (by decide) ?_
    exact RETN _ _ (tex k1) () _ _ dX4_signAt_18 (rfl) (by unfold sg; first | rw [if_pos (by omega)] | rw [if_neg (by omega)]) hP hD hS
set_option maxHeartbeats 4000000 in
set_option maxRecDepth 100000 in
theorem c_X4_isDigit {l : Launch} {D : va_G} {cI cG cC cR : ClassId} {h : Nat → Nat} {now past bef tri tex : Nat → Int32} {pasts : Int32} {tl : Nat} (htl : tl ≤ 80) {a : Nat} (ha : a < 1000) : CtI l yX4_isDigit wsX4_isDigit { frames := 1, cells := 0, slots := 0, locals := 22 } D (TY cI cG cC cR) [.ref (h 0)] (MW h cI now past pasts bef tri tex (nI tl) (nI a)) (fun (_ : Unit) => MW h cI now past pasts bef tri tex (nI tl) (nI a)) (fun (r : Int32) (_ : Unit) => r = bI (dgB tex tl a)) := by
  refine CtI.of (cc := cX4_isDigit) (maxL := 1) (ty := .boolean) (by decide) rfl (Nat.le_of_ble_eq_true rfl) ?_
  intro P0 e0 s0 m0 a0 b0 t0 c0 A0 Q0 ls F hK hP hD hA RETN hl
  obtain ⟨hx, hb, hml, hown, hts⟩ := id F
  have hS : va_S A0 s0.heap s0.heap [] := va_S.rf
  have hl : lv_has ls 1 [(0, .ref (h 0))] := hl
  have lk105 := hts (.fieldLink RX4 105 "SlotMapsModel" "at" "I") (by decide +kernel)
  have hI4 : ∀ w ∈ u_ws RX4 TX4 8, w ∈ wsX4_isDigit := by decide +kernel
  refine lv_aload_n hx hb dX4_isDigit_0 rfl (lv_at hl 0 rfl) ?_
  refine lv_aload_n hx hb dX4_isDigit_1 rfl (lv_at hl 0 rfl) ?_
  refine va_get (D := D) (ci := 4) (v := .int (nI a)) (C := RX4) (T := TX4) (N := 8) hx hb hts hI4 hown hK.1 hP 0 rfl rfl 7 (by decide) lk105 (fun _ h9 => h9) rfl dX4_isDigit_2 ?_
  refine cl_Vi (b := (h 0)) (As := [.int (nI a)]) (rest := []) (wc := MW h cI now past pasts bef tri tex (nI tl) (nI a)) (wsN := fun (_ : Unit) => MW h cI now past pasts bef tri tex (nI tl) (nI a)) F hK hA hP hD hS (c_X4_signAt htl ha) (cwV 1 hts gX4_isDigit_X4_signAt rfl rfl rfl (by decide +kernel) ⟨Nat.le_of_ble_eq_true rfl, Nat.le_of_ble_eq_true rfl⟩) [0, 1, 2, 3, 4, 5] [] [0, 1, 2, 3, 4, 5] ([]) rfl rfl (fun _ => rfl) (by decide) (by decide) 0 rfl rfl rfl hl.1 rfl (Nat.le_of_ble_eq_true rfl) ⟨Nat.zero_le _, Nat.zero_le _⟩ dX4_isDigit_5 (fun r_2 _ H locs hw_1 hP hD hS => ?_)
  try dsimp only at hw_1 hP hD
  obtain rfl : r_2 = (sg tex tl a) := hw_1
  refine lv_bipush (v := (nI 48)) hx hb dX4_isDigit_8 (by decide) ?_
  refine lv_bipush (v := (nI 57)) hx hb dX4_isDigit_10 (by decide) ?_
  refine cl_S0 (As := [.int (sg tex tl a), .int (nI 48), .int (nI 57)]) (rest := []) F hK hA hP hD hS (c_X4_in) (va_cwS 3 hts gX4_isDigit_X4_in rfl rfl rfl (by decide +kernel) ⟨Nat.le_of_ble_eq_true rfl, Nat.le_of_ble_eq_true rfl⟩) rfl hl.1 rfl (Nat.le_of_ble_eq_true rfl) ⟨Nat.zero_le _, Nat.zero_le _⟩ dX4_isDigit_12 (fun r_3 H locs hw_4 hP hS => ?_)
  try dsimp only at hw_4
  obtain rfl : r_3 = (bI (inB (sg tex tl a) (nI 48) (nI 57))) := hw_4
  exact RETN _ _ (bI (inB (sg tex tl a) (nI 48) (nI 57))) () _ _ dX4_isDigit_15 (bI_z _) (rfl) hP hD hS
set_option maxHeartbeats 4000000 in
set_option maxRecDepth 100000 in
theorem c_X4_number {l : Launch} {D : va_G} {cI cG cC cR : ClassId} {h : Nat → Nat} {now past bef tri tex : Nat → Int32} {pasts : Int32} {tl : Nat} (htl : tl ≤ 80) {a : Nat} (hd : dgB tex tl a = true) : CtI l yX4_number wsX4_number { frames := 2, cells := 0, slots := 0, locals := 42 } D (TY cI cG cC cR) [.ref (h 0)] (MW h cI now past pasts bef tri tex (nI tl) (nI a)) (fun (_ : Unit) => MW h cI now past pasts bef tri tex (nI tl) (nI ((nm tex tl a).2))) (fun (r : Int32) (_ : Unit) => r = nI (nm tex tl a).1) := by
  refine CtI.of (cc := cX4_number) (maxL := 3) (ty := .int) (by decide) rfl (Nat.le_of_ble_eq_true rfl) ?_
  intro P0 e0 s0 m0 a0 b0 t0 c0 A0 Q0 ls F hK hP hD hA RETN hl
  obtain ⟨hx, hb, hml, hown, hts⟩ := id F
  have hS : va_S A0 s0.heap s0.heap [] := va_S.rf
  have hl : lv_has ls 3 [(0, .ref (h 0))] := hl
  obtain ⟨hd0, hd1, hd9⟩ := dg_of hd
  have lk105 := hts (.fieldLink RX4 105 "SlotMapsModel" "at" "I") (by decide +kernel)
  have hI4 : ∀ w ∈ u_ws RX4 TX4 8, w ∈ wsX4_number := by decide +kernel
  refine lv_aload_n hx hb dX4_number_0 rfl (lv_at hl 0 rfl) ?_
  refine lv_aload_n hx hb dX4_number_1 rfl (lv_at hl 0 rfl) ?_
  refine va_get (D := D) (ci := 4) (v := .int (nI a)) (C := RX4) (T := TX4) (N := 8) hx hb hts hI4 hown hK.1 hP 0 rfl rfl 7 (by decide) lk105 (fun _ h9 => h9) rfl dX4_number_2 ?_
  refine cl_Vi (b := (h 0)) (As := [.int (nI a)]) (rest := []) (wc := MW h cI now past pasts bef tri tex (nI tl) (nI a)) (wsN := fun (_ : Unit) => MW h cI now past pasts bef tri tex (nI tl) (nI a)) F hK hA hP hD hS (c_X4_signAt htl (by omega)) (cwV 1 hts gX4_number_X4_signAt rfl rfl rfl (by decide +kernel) ⟨Nat.le_of_ble_eq_true rfl, Nat.le_of_ble_eq_true rfl⟩) [0, 1, 2, 3, 4, 5] [] [0, 1, 2, 3, 4, 5] ([]) rfl rfl (fun _ => rfl) (by decide) (by decide) 0 rfl rfl rfl hl.1 rfl (Nat.le_of_ble_eq_true rfl) ⟨Nat.zero_le _, Nat.zero_le _⟩ dX4_number_5 (fun r_2 _ H locs hw_1 hP hD hS => ?_)
  try dsimp only at hw_1 hP hD
  obtain rfl : r_2 = (sg tex tl a) := hw_1
  refine lv_bipush (v := (nI 48)) hx hb dX4_number_8 (by decide) ?_
  refine lv_isub hx hb dX4_number_10 ?_
  refine n_as (x' := (nI (dg tex tl a))) (dg_sub hd) ?_
  refine lv_istore_n (lv' := [(1, .int (nI (dg tex tl a))), (0, .ref (h 0))]) hx hb dX4_number_11 rfl hl (by decide) rfl (fun ls hl => ?_)
  refine lv_aload_n hx hb dX4_number_12 rfl (lv_at hl 1 rfl) ?_
  refine lv_dup hx hb dX4_number_13 rfl ?_
  refine va_get (D := D) (ci := 4) (v := .int (nI a)) (C := RX4) (T := TX4) (N := 8) hx hb hts hI4 hown hK.1 hP 0 rfl rfl 7 (by decide) lk105 (fun _ h9 => h9) rfl dX4_number_14 ?_
  refine lv_iconst (v := (nI 1)) hx hb dX4_number_17 (by decide) ?_
  refine lv_iadd hx hb dX4_number_18 ?_
  refine n_as (x' := nI (a + 1)) (nI_add _ _) ?_
  refine va_put (D := D) (ci := 4) (v := .int (nI (a + 1))) (ty := .int) (C := RX4) (T := TX4) (N := 8) hx hb hts hI4 tyX4 tyX4_ok nmX4 hown hK.1 hP hD hS 0 rfl rfl 7 (by decide) lk105 (fun _ h9 => h9) rfl (by decide +kernel) rfl rfl (Nat.le_of_ble_eq_true rfl) dX4_number_19 (fun H locs hP hD hS => ?_)
  have hP : va_P D vwCl (MW h cI now past pasts bef tri tex (nI tl) (nI (a + 1))) H := hP
  have hD : va_D A0 (MW h cI now past pasts bef tri tex (nI tl) (nI (a + 1))) := hD
  refine lv_iconst (v := (nI 0)) hx hb dX4_number_22 (by decide) ?_
  refine lv_istore_n (lv' := [(2, .int (nI 0)), (1, .int (nI (dg tex tl a))), (0, .ref (h 0))]) hx hb dX4_number_23 rfl hl (by decide) rfl (fun ls hl => ?_)
  have LP24 : ∀ (nn : Nat) (k : Nat) (v : Nat) (a2 : Nat) (H : Heap) (locs : List Loc) (ls : Array Slot), (k = 0 ∧ v ≤ 9) ∨ (k = 1 ∧ v ≤ 99) ∨ (k = 2 ∧ v ≤ 999) → a2 = a + 1 + k → nm tex tl a = nmG tex tl (2 - k) v a2 → 2 - k < nn → va_P D vwCl (MW h cI now past pasts bef tri tex (nI tl) (nI a2)) H → va_D A0 (MW h cI now past pasts bef tri tex (nI tl) (nI a2)) → va_S A0 s0.heap H locs → lv_has ls 3 [(2, .int (nI k)), (1, .int (nI v)), (0, .ref (h 0))] → W P0 l e0 { frames := 2, cells := 0, slots := 0, locals := 42 } s0 m0 a0 b0 t0 c0 H locs 0 0 Q0 (F0 m0 24 ls []) := by
    intro nn
    induction nn with
    | zero => intro k v a2 H locs ls hk ha2 ha hmu; exact absurd hmu (Nat.not_lt_zero _)
    | succ nn ih24 =>
      intro k v a2 H locs ls hk ha2 ha hmu24 hP hD hS hl
      refine lv_iload_n hx hb dX4_number_24 rfl (lv_at hl 0 rfl) ?_
      refine lv_iconst (v := (nI 2)) hx hb dX4_number_25 (by decide) ?_
      refine lv_icmp_ge (tgt := 73) hx hb dX4_number_26 (by decide) (fun c26 => ?_) (fun c26 => ?_)
      · skip
        replace c26 : 2 ≤ k := by rw [nI_leI (by omega) (by omega)] at c26; exact c26
        refine lv_iload_n hx hb dX4_number_73 rfl (lv_at hl 1 rfl) ?_
        have e : nm tex tl a = (v, a2) := by rw [ha]; exact nmG_end (by omega)
        have hP : va_P D vwCl (MW h cI now past pasts bef tri tex (nI tl) (nI (nm tex tl a).2)) H := by rw [e]; exact hP
        have hD : va_D A0 (MW h cI now past pasts bef tri tex (nI tl) (nI (nm tex tl a).2)) := by rw [e]; exact hD
        exact RETN _ _ (nI v) () _ _ dX4_number_74 (rfl) (by rw [e]) hP hD hS
      · skip
        replace c26 : ¬ (2 ≤ k) := by rw [nI_leI (by omega) (by omega)] at c26; exact c26
        refine lv_iload_n hx hb dX4_number_29 rfl (lv_at hl 1 rfl) ?_
        refine lv_if_le (tgt := 73) hx hb dX4_number_30 (by decide) (fun c30 => ?_) (fun c30 => ?_)
        · skip
          replace c30 : v ≤ 0 := by rw [show (0 : Int32) = nI 0 from rfl, nI_leI (by omega) (by omega)] at c30; exact c30
          refine lv_iload_n hx hb dX4_number_73 rfl (lv_at hl 1 rfl) ?_
          have e : nm tex tl a = (v, a2) := by rw [ha]; exact nmG_no (Or.inl (by omega))
          have hP : va_P D vwCl (MW h cI now past pasts bef tri tex (nI tl) (nI (nm tex tl a).2)) H := by rw [e]; exact hP
          have hD : va_D A0 (MW h cI now past pasts bef tri tex (nI tl) (nI (nm tex tl a).2)) := by rw [e]; exact hD
          exact RETN _ _ (nI v) () _ _ dX4_number_74 (rfl) (by rw [e]) hP hD hS
        · skip
          replace c30 : ¬ (v ≤ 0) := by rw [show (0 : Int32) = nI 0 from rfl, nI_leI (by omega) (by omega)] at c30; exact c30
          refine lv_aload_n hx hb dX4_number_33 rfl (lv_at hl 2 rfl) ?_
          refine cl_Vi (b := (h 0)) (As := []) (rest := []) (wc := MW h cI now past pasts bef tri tex (nI tl) (nI a2)) (wsN := fun (_ : Unit) => MW h cI now past pasts bef tri tex (nI tl) (nI a2)) F hK hA hP hD hS (c_X4_isDigit htl (by omega)) (cwV 0 hts gX4_number_X4_isDigit rfl rfl rfl (by decide +kernel) ⟨Nat.le_of_ble_eq_true rfl, Nat.le_of_ble_eq_true rfl⟩) [0, 1, 2, 3, 4, 5] [] [0, 1, 2, 3, 4, 5] ([]) rfl rfl (fun _ => rfl) (by decide) (by decide) 0 rfl rfl rfl hl.1 rfl (Nat.le_of_ble_eq_true rfl) ⟨Nat.zero_le _, Nat.zero_le _⟩ dX4_number_34 (fun r_4 _ H locs hw_3 hP hD hS => ?_)
          try dsimp only at hw_3 hP hD
          obtain rfl : r_4 = (bI (dgB tex tl a2)) := hw_3
          refine lv_if_eq (tgt := 73) hx hb dX4_number_37 (by decide) (fun c37 => ?_) (fun c37 => ?_)
          · skip
            replace c37 : (bI (dgB tex tl a2)) = nI 0 := c37
            refine lv_iload_n hx hb dX4_number_73 rfl (lv_at hl 1 rfl) ?_
            have e : nm tex tl a = (v, a2) := by rw [ha]; exact nmG_no (Or.inr (bI_cf c37))
            have hP : va_P D vwCl (MW h cI now past pasts bef tri tex (nI tl) (nI (nm tex tl a).2)) H := by rw [e]; exact hP
            have hD : va_D A0 (MW h cI now past pasts bef tri tex (nI tl) (nI (nm tex tl a).2)) := by rw [e]; exact hD
            exact RETN _ _ (nI v) () _ _ dX4_number_74 (rfl) (by rw [e]) hP hD hS
          · skip
            replace c37 : ¬ (bI (dgB tex tl a2)) = nI 0 := c37
            have hd2 := bI_ct c37
            obtain ⟨hd3, hd4, hd5⟩ := dg_of hd2
            refine lv_bipush (v := (nI 10)) hx hb dX4_number_40 (by decide) ?_
            refine lv_iload_n hx hb dX4_number_42 rfl (lv_at hl 1 rfl) ?_
            refine lv_imul hx hb dX4_number_43 ?_
            refine n_as (x' := nI (10 * v)) (pk_mul _ _) ?_
            refine lv_aload_n hx hb dX4_number_44 rfl (lv_at hl 2 rfl) ?_
            refine lv_aload_n hx hb dX4_number_45 rfl (lv_at hl 2 rfl) ?_
            refine va_get (D := D) (ci := 4) (v := .int (nI a2)) (C := RX4) (T := TX4) (N := 8) hx hb hts hI4 hown hK.1 hP 0 rfl rfl 7 (by decide) lk105 (fun _ h9 => h9) rfl dX4_number_46 ?_
            refine cl_Vi (b := (h 0)) (As := [.int (nI a2)]) (rest := [.int (nI (10 * v))]) (wc := MW h cI now past pasts bef tri tex (nI tl) (nI a2)) (wsN := fun (_ : Unit) => MW h cI now past pasts bef tri tex (nI tl) (nI a2)) F hK hA hP hD hS (c_X4_signAt htl (by omega)) (cwV 1 hts gX4_number_X4_signAt rfl rfl rfl (by decide +kernel) ⟨Nat.le_of_ble_eq_true rfl, Nat.le_of_ble_eq_true rfl⟩) [0, 1, 2, 3, 4, 5] [] [0, 1, 2, 3, 4, 5] ([]) rfl rfl (fun _ => rfl) (by decide) (by decide) 0 rfl rfl rfl hl.1 rfl (Nat.le_of_ble_eq_true rfl) ⟨Nat.zero_le _, Nat.zero_le _⟩ dX4_number_49 (fun r_6 _ H locs hw_5 hP hD hS => ?_)
            try dsimp only at hw_5 hP hD
            obtain rfl : r_6 = (nI (48 + dg tex tl a2)) := by rw [hw_5]; exact hd3
            refine lv_iadd hx hb dX4_number_52 ?_
            refine n_as (x' := nI ((10 * v) + (48 + dg tex tl a2))) (nI_add _ _) ?_
            refine lv_bipush (v := (nI 48)) hx hb dX4_number_53 (by decide) ?_
            refine lv_isub hx hb dX4_number_55 ?_
            refine n_as (x' := (nI (10 * v + dg tex tl a2))) (by rw [pk_sub (by omega)]; exact congrArg nI (by omega)) ?_
            refine lv_istore_n (lv' := [(1, .int (nI (10 * v + dg tex tl a2))), (2, .int (nI k)), (0, .ref (h 0))]) hx hb dX4_number_56 rfl hl (by decide) rfl (fun ls hl => ?_)
            refine lv_aload_n hx hb dX4_number_57 rfl (lv_at hl 2 rfl) ?_
            refine lv_dup hx hb dX4_number_58 rfl ?_
            refine va_get (D := D) (ci := 4) (v := .int (nI a2)) (C := RX4) (T := TX4) (N := 8) hx hb hts hI4 hown hK.1 hP 0 rfl rfl 7 (by decide) lk105 (fun _ h9 => h9) rfl dX4_number_59 ?_
            refine lv_iconst (v := (nI 1)) hx hb dX4_number_62 (by decide) ?_
            refine lv_iadd hx hb dX4_number_63 ?_
            refine n_as (x' := nI (a2 + 1)) (nI_add _ _) ?_
            refine va_put (D := D) (ci := 4) (v := .int (nI (a2 + 1))) (ty := .int) (C := RX4) (T := TX4) (N := 8) hx hb hts hI4 tyX4 tyX4_ok nmX4 hown hK.1 hP hD hS 0 rfl rfl 7 (by decide) lk105 (fun _ h9 => h9) rfl (by decide +kernel) rfl rfl (Nat.le_of_ble_eq_true rfl) dX4_number_64 (fun H locs hP hD hS => ?_)
            have hP : va_P D vwCl (MW h cI now past pasts bef tri tex (nI tl) (nI (a2 + 1))) H := hP
            have hD : va_D A0 (MW h cI now past pasts bef tri tex (nI tl) (nI (a2 + 1))) := hD
            refine lv_iinc (v := (nI (k + 1))) (lv' := [(2, .int (nI (k + 1))), (1, .int (nI (10 * v + dg tex tl a2))), (0, .ref (h 0))]) hx hb dX4_number_67 hl (k := 1) rfl (n_inc1 _) (by decide) rfl (fun ls hl => ?_)
            refine lv_goto (tgt := 24) hx hb dX4_number_70 (by decide) ?_
            exact ih24 (k + 1) (10 * v + dg tex tl a2) (a2 + 1) _ _ _ (by omega) (by omega) (by rw [ha]; exact nmG_go (by omega) (by omega) hd2) (by omega) hP hD hS (lv_sub hl [0, 1, 2] rfl)
  exact LP24 _ 0 (dg tex tl a) (a + 1) _ _ _ (by omega) (by omega) (rfl) (Nat.lt_succ_self _) hP hD hS (lv_sub hl [0, 1, 2] rfl)
set_option maxHeartbeats 4000000 in
set_option maxRecDepth 100000 in
theorem c_X4_takesMany {l : Launch} {D : va_G} {cI cG cC cR : ClassId} {h : Nat → Nat} {now past bef tri tex : Nat → Int32} {pasts typed ati : Int32} {v : Int32} : CtI l yX4_takesMany wsX4_takesMany { frames := 5, cells := 0, slots := 0, locals := 113 } D (TY cI cG cC cR) [.ref (h 0), .int v] (MW h cI now past pasts bef tri tex typed ati) (fun (u : Nat → Int32) => MW h cI u past pasts bef tri tex typed ati) (fun (r : Int32) (u : Nat → Int32) => r = (tmA now v).1 ∧ u = (tmA now v).2) := by
  refine CtI.of (cc := cX4_takesMany) (maxL := 4) (ty := .int) (by decide) rfl (Nat.le_of_ble_eq_true rfl) ?_
  intro P0 e0 s0 m0 a0 b0 t0 c0 A0 Q0 ls F hK hP hD hA RETN hl
  obtain ⟨hx, hb, hml, hown, hts⟩ := id F
  have hS : va_S A0 s0.heap s0.heap [] := va_S.rf
  have hl : lv_has ls 4 [(0, .ref (h 0)), (1, .int v)] := hl
  refine lv_iload_n hx hb dX4_takesMany_0 rfl (lv_at hl 1 rfl) ?_
  refine lv_iconst (v := (nI 1)) hx hb dX4_takesMany_1 (by decide) ?_
  refine lv_sipush (v := (nI 320)) hx hb dX4_takesMany_2 (by decide) ?_
  refine cl_S0 (As := [.int v, .int (nI 1), .int (nI 320)]) (rest := []) F hK hA hP hD hS (c_X4_in) (va_cwS 3 hts gX4_takesMany_X4_in rfl rfl rfl (by decide +kernel) ⟨Nat.le_of_ble_eq_true rfl, Nat.le_of_ble_eq_true rfl⟩) rfl hl.1 rfl (Nat.le_of_ble_eq_true rfl) ⟨Nat.zero_le _, Nat.zero_le _⟩ dX4_takesMany_5 (fun r_1 H locs hw_2 hP hS => ?_)
  try dsimp only at hw_2
  obtain rfl : r_1 = (bI (inB v (nI 1) (nI 320))) := hw_2
  refine lv_if_ne (tgt := 13) hx hb dX4_takesMany_8 (by decide) (fun c8 => ?_) (fun c8 => ?_)
  · skip
    replace c8 : ¬ (bI (inB v (nI 1) (nI 320))) = nI 0 := c8
    obtain ⟨m, hlo_m, hhi_m, rfl⟩ := inB_nat (by omega) (by omega) (bI_ct c8)
    refine lv_iconst (v := (nI 0)) hx hb dX4_takesMany_13 (by decide) ?_
    refine lv_istore_n (lv' := [(2, .int (nI 0)), (0, .ref (h 0)), (1, .int (nI m))]) hx hb dX4_takesMany_14 rfl hl (by decide) rfl (fun ls hl => ?_)
    refine lv_iconst (v := (nI 0)) hx hb dX4_takesMany_15 (by decide) ?_
    refine lv_istore_n (lv' := [(3, .int (nI 0)), (2, .int (nI 0)), (0, .ref (h 0)), (1, .int (nI m))]) hx hb dX4_takesMany_16 rfl hl (by decide) rfl (fun ls hl => ?_)
    have LP17 : ∀ (nn : Nat) (k : Nat) (x : Int32) (g : Nat → Int32) (H : Heap) (locs : List Loc) (ls : Array Slot), k ≤ m → tmA now (nI m) = tmR (m - k) x g → m - k < nn → va_P D vwCl (MW h cI g past pasts bef tri tex typed ati) H → va_D A0 (MW h cI g past pasts bef tri tex typed ati) → va_S A0 s0.heap H locs → lv_has ls 4 [(3, .int (nI k)), (2, .int x), (0, .ref (h 0)), (1, .int (nI m))] → W P0 l e0 { frames := 5, cells := 0, slots := 0, locals := 113 } s0 m0 a0 b0 t0 c0 H locs 0 0 Q0 (F0 m0 17 ls []) := by
      intro nn
      induction nn with
      | zero => intro k x g H locs ls hk ha hmu; exact absurd hmu (Nat.not_lt_zero _)
      | succ nn ih17 =>
        intro k x g H locs ls hk ha hmu17 hP hD hS hl
        refine lv_iload_n hx hb dX4_takesMany_17 rfl (lv_at hl 0 rfl) ?_
        refine lv_iload_n hx hb dX4_takesMany_18 rfl (lv_at hl 3 rfl) ?_
        refine lv_icmp_ge (tgt := 37) hx hb dX4_takesMany_19 (by decide) (fun c19 => ?_) (fun c19 => ?_)
        · skip
          replace c19 : m ≤ k := by rw [nI_leI (by omega) (by omega)] at c19; exact c19
          refine lv_iload_n hx hb dX4_takesMany_37 rfl (lv_at hl 1 rfl) ?_
          exact RETN _ _ x g _ _ dX4_takesMany_38 (rfl) (by rw [ha, tmR_end (by omega)]; exact ⟨rfl, rfl⟩) hP hD hS
        · skip
          replace c19 : ¬ (m ≤ k) := by rw [nI_leI (by omega) (by omega)] at c19; exact c19
          refine lv_iload_n hx hb dX4_takesMany_22 rfl (lv_at hl 1 rfl) ?_
          refine lv_if_lt (tgt := 37) hx hb dX4_takesMany_23 (by decide) (fun c23 => ?_) (fun c23 => ?_)
          · skip
            refine lv_iload_n hx hb dX4_takesMany_37 rfl (lv_at hl 1 rfl) ?_
            exact RETN _ _ x g _ _ dX4_takesMany_38 (rfl) (by rw [ha, tmR_neg c23]; exact ⟨rfl, rfl⟩) hP hD hS
          · skip
            refine lv_aload_n hx hb dX4_takesMany_26 rfl (lv_at hl 2 rfl) ?_
            refine cl_Vi (b := (h 0)) (As := []) (rest := []) (wc := MW h cI g past pasts bef tri tex typed ati) (wsN := fun (u1 : Nat → Int32) => MW h cI u1 past pasts bef tri tex typed ati) F hK hA hP hD hS (c_X4_takes1) (cwV 0 hts gX4_takesMany_X4_takes1 rfl rfl rfl (by decide +kernel) ⟨Nat.le_of_ble_eq_true rfl, Nat.le_of_ble_eq_true rfl⟩) [0, 1, 2, 3, 4, 5] [] [0, 1, 2, 3, 4, 5] ([]) rfl rfl (fun _ => rfl) (by decide) (by decide) 0 rfl rfl rfl hl.1 rfl (Nat.le_of_ble_eq_true rfl) ⟨Nat.zero_le _, Nat.zero_le _⟩ dX4_takesMany_27 (fun r1 u1 H locs hw_3 hP hD hS => ?_)
            try dsimp only at hw_3 hP hD
            obtain ⟨rfl, rfl⟩ := hw_3
            have hP : va_P D vwCl (MW h cI ((tk g).2) past pasts bef tri tex typed ati) H := hP
            have hD : va_D A0 (MW h cI ((tk g).2) past pasts bef tri tex typed ati) := hD
            refine lv_istore_n (lv' := [(2, .int (o3 (tk g).1)), (3, .int (nI k)), (0, .ref (h 0)), (1, .int (nI m))]) hx hb dX4_takesMany_30 rfl hl (by decide) rfl (fun ls hl => ?_)
            refine lv_iinc (v := (nI (k + 1))) (lv' := [(3, .int (nI (k + 1))), (2, .int (o3 (tk g).1)), (0, .ref (h 0)), (1, .int (nI m))]) hx hb dX4_takesMany_31 hl (k := 1) rfl (n_inc1 _) (by decide) rfl (fun ls hl => ?_)
            refine lv_goto (tgt := 17) hx hb dX4_takesMany_34 (by decide) ?_
            exact ih17 (k + 1) (o3 (tk g).1) ((tk g).2) _ _ _ (by omega) (by rw [ha]; exact tmR_go (by omega) c23) (by omega) hP hD hS (lv_sub hl [0, 1, 2, 3] rfl)
    exact LP17 _ 0 (nI 0) now _ _ _ (by omega) (tmA_m (by omega) (by omega)) (Nat.lt_succ_self _) hP hD hS (lv_sub hl [0, 1, 2, 3] rfl)
  · skip
    replace c8 : (bI (inB v (nI 1) (nI 320))) = nI 0 := c8
    refine lv_iconst (v := (-1)) hx hb dX4_takesMany_11 (by decide) ?_
    exact RETN _ _ (-1) now _ _ dX4_takesMany_12 (rfl) (by rw [tmA_n (bI_cf c8)]; exact ⟨rfl, rfl⟩) hP hD hS
set_option maxHeartbeats 4000000 in
set_option maxRecDepth 100000 in
theorem c_X4_does {l : Launch} {D : va_G} {cI cG cC cR : ClassId} {h : Nat → Nat} {now past bef tri tex : Nat → Int32} {pasts typed ati : Int32} {kl : Nat} {x y : Int32} (hl7 : kl = 116 ∨ kl = 102 ∨ kl = 99 ∨ kl = 114 ∨ kl = 98 ∨ kl = 100 ∨ kl = 97) (hB : BInv now) : CtI l yX4_does wsX4_does { frames := 6, cells := 0, slots := 0, locals := 136 } D (TY cI cG cC cR) [.ref (h 0), .int (nI kl), .int x, .int y] (MW h cI now past pasts bef tri tex typed ati) (fun (u : Nat → Int32) => MW h cI u past pasts bef tri tex typed ati) (fun (r : Int32) (u : Nat → Int32) => r = (doA now kl x y).1 ∧ u = (doA now kl x y).2) := by
  refine CtI.of (cc := cX4_does) (maxL := 4) (ty := .int) (by decide) rfl (Nat.le_of_ble_eq_true rfl) ?_
  intro P0 e0 s0 m0 a0 b0 t0 c0 A0 Q0 ls F hK hP hD hA RETN hl
  obtain ⟨hx, hb, hml, hown, hts⟩ := id F
  have hS : va_S A0 s0.heap s0.heap [] := va_S.rf
  have hl : lv_has ls 4 [(0, .ref (h 0)), (1, .int (nI kl)), (2, .int x), (3, .int y)] := hl
  rcases hl7 with rfl | rfl | rfl | rfl | rfl | rfl | rfl
  ·
    skip
    refine lv_iload_n hx hb dX4_does_0 rfl (lv_at hl 1 rfl) ?_
    refine lv_tableIn (off := 91) (tgt := 92) hx hb dX4_does_1 (by decide) (by decide) rfl (by decide) ?_
    refine lv_aload_n hx hb dX4_does_92 rfl (lv_at hl 0 rfl) ?_
    refine lv_iload_n hx hb dX4_does_93 rfl (lv_at hl 2 rfl) ?_
    refine cl_Vi (b := (h 0)) (As := [.int x]) (rest := []) (wc := MW h cI now past pasts bef tri tex typed ati) (wsN := fun (u1 : Nat → Int32) => MW h cI u1 past pasts bef tri tex typed ati) F hK hA hP hD hS (c_X4_takesMany) (cwV 1 hts gX4_does_X4_takesMany rfl rfl rfl (by decide +kernel) ⟨Nat.le_of_ble_eq_true rfl, Nat.le_of_ble_eq_true rfl⟩) [0, 1, 2, 3, 4, 5] [] [0, 1, 2, 3, 4, 5] ([]) rfl rfl (fun _ => rfl) (by decide) (by decide) 0 rfl rfl rfl hl.1 rfl (Nat.le_of_ble_eq_true rfl) ⟨Nat.zero_le _, Nat.zero_le _⟩ dX4_does_94 (fun r1 u1 H locs hw_1 hP hD hS => ?_)
    try dsimp only at hw_1 hP hD
    obtain ⟨rfl, rfl⟩ := hw_1
    have hP : va_P D vwCl (MW h cI ((tmA now x).2) past pasts bef tri tex typed ati) H := hP
    have hD : va_D A0 (MW h cI ((tmA now x).2) past pasts bef tri tex typed ati) := hD
    exact RETN _ _ ((tmA now x).1) ((tmA now x).2) _ _ dX4_does_97 (rfl) (⟨rfl, rfl⟩) hP hD hS
  ·
    skip
    refine lv_iload_n hx hb dX4_does_0 rfl (lv_at hl 1 rfl) ?_
    refine lv_tableIn (off := 97) (tgt := 98) hx hb dX4_does_1 (by decide) (by decide) rfl (by decide) ?_
    refine lv_aload_n hx hb dX4_does_98 rfl (lv_at hl 0 rfl) ?_
    refine lv_iload_n hx hb dX4_does_99 rfl (lv_at hl 2 rfl) ?_
    refine lv_iload_n hx hb dX4_does_100 rfl (lv_at hl 3 rfl) ?_
    refine cl_Vi (b := (h 0)) (As := [.int x, .int y]) (rest := []) (wc := MW h cI now past pasts bef tri tex typed ati) (wsN := fun (u1 : Nat → Int32) => MW h cI u1 past pasts bef tri tex typed ati) F hK hA hP hD hS (c_X4_givesBack) (cwV 2 hts gX4_does_X4_givesBack rfl rfl rfl (by decide +kernel) ⟨Nat.le_of_ble_eq_true rfl, Nat.le_of_ble_eq_true rfl⟩) [0, 1, 2, 3, 4, 5] [] [0, 1, 2, 3, 4, 5] ([]) rfl rfl (fun _ => rfl) (by decide) (by decide) 0 rfl rfl rfl hl.1 rfl (Nat.le_of_ble_eq_true rfl) ⟨Nat.zero_le _, Nat.zero_le _⟩ dX4_does_101 (fun r1 u1 H locs hw_3 hP hD hS => ?_)
    try dsimp only at hw_3 hP hD
    obtain ⟨rfl, rfl⟩ := hw_3
    have hP : va_P D vwCl (MW h cI ((gbA now x y).2) past pasts bef tri tex typed ati) H := hP
    have hD : va_D A0 (MW h cI ((gbA now x y).2) past pasts bef tri tex typed ati) := hD
    exact RETN _ _ ((gbA now x y).1) ((gbA now x y).2) _ _ dX4_does_104 (rfl) (⟨rfl, rfl⟩) hP hD hS
  ·
    skip
    refine lv_iload_n hx hb dX4_does_0 rfl (lv_at hl 1 rfl) ?_
    refine lv_tableIn (off := 104) (tgt := 105) hx hb dX4_does_1 (by decide) (by decide) rfl (by decide) ?_
    refine lv_aload_n hx hb dX4_does_105 rfl (lv_at hl 0 rfl) ?_
    refine lv_iload_n hx hb dX4_does_106 rfl (lv_at hl 2 rfl) ?_
    refine cl_Vi (b := (h 0)) (As := [.int x]) (rest := []) (wc := MW h cI now past pasts bef tri tex typed ati) (wsN := fun (u1 : Nat → Int32) => MW h cI u1 past pasts bef tri tex typed ati) F hK hA hP hD hS (c_X4_clearsSome) (cwV 1 hts gX4_does_X4_clearsSome rfl rfl rfl (by decide +kernel) ⟨Nat.le_of_ble_eq_true rfl, Nat.le_of_ble_eq_true rfl⟩) [0, 1, 2, 3, 4, 5] [] [0, 1, 2, 3, 4, 5] ([]) rfl rfl (fun _ => rfl) (by decide) (by decide) 0 rfl rfl rfl hl.1 rfl (Nat.le_of_ble_eq_true rfl) ⟨Nat.zero_le _, Nat.zero_le _⟩ dX4_does_107 (fun r1 u1 H locs hw_5 hP hD hS => ?_)
    try dsimp only at hw_5 hP hD
    obtain ⟨rfl, rfl⟩ := hw_5
    have hP : va_P D vwCl (MW h cI ((clA now x).2) past pasts bef tri tex typed ati) H := hP
    have hD : va_D A0 (MW h cI ((clA now x).2) past pasts bef tri tex typed ati) := hD
    exact RETN _ _ ((clA now x).1) ((clA now x).2) _ _ dX4_does_110 (rfl) (⟨rfl, rfl⟩) hP hD hS
  ·
    skip
    refine lv_iload_n hx hb dX4_does_0 rfl (lv_at hl 1 rfl) ?_
    refine lv_tableIn (off := 110) (tgt := 111) hx hb dX4_does_1 (by decide) (by decide) rfl (by decide) ?_
    refine lv_aload_n hx hb dX4_does_111 rfl (lv_at hl 0 rfl) ?_
    refine lv_iload_n hx hb dX4_does_112 rfl (lv_at hl 2 rfl) ?_
    refine cl_Vi (b := (h 0)) (As := [.int x]) (rest := []) (wc := MW h cI now past pasts bef tri tex typed ati) (wsN := fun (u1 : Nat → Int32) => MW h cI u1 past pasts bef tri tex typed ati) F hK hA hP hD hS (c_X4_reserves) (cwV 1 hts gX4_does_X4_reserves rfl rfl rfl (by decide +kernel) ⟨Nat.le_of_ble_eq_true rfl, Nat.le_of_ble_eq_true rfl⟩) [0, 1, 2, 3, 4, 5] [] [0, 1, 2, 3, 4, 5] ([]) rfl rfl (fun _ => rfl) (by decide) (by decide) 0 rfl rfl rfl hl.1 rfl (Nat.le_of_ble_eq_true rfl) ⟨Nat.zero_le _, Nat.zero_le _⟩ dX4_does_113 (fun r1 u1 H locs hw_7 hP hD hS => ?_)
    try dsimp only at hw_7 hP hD
    obtain ⟨rfl, rfl⟩ := hw_7
    have hP : va_P D vwCl (MW h cI ((rsA now x).2) past pasts bef tri tex typed ati) H := hP
    have hD : va_D A0 (MW h cI ((rsA now x).2) past pasts bef tri tex typed ati) := hD
    exact RETN _ _ ((rsA now x).1) ((rsA now x).2) _ _ dX4_does_116 (rfl) (⟨rfl, rfl⟩) hP hD hS
  ·
    skip
    refine lv_iload_n hx hb dX4_does_0 rfl (lv_at hl 1 rfl) ?_
    refine lv_tableIn (off := 116) (tgt := 117) hx hb dX4_does_1 (by decide) (by decide) rfl (by decide) ?_
    refine lv_aload_n hx hb dX4_does_117 rfl (lv_at hl 0 rfl) ?_
    refine lv_iload_n hx hb dX4_does_118 rfl (lv_at hl 2 rfl) ?_
    refine cl_Vi (b := (h 0)) (As := [.int x]) (rest := []) (wc := MW h cI now past pasts bef tri tex typed ati) (wsN := fun (u1 : Nat → Int32) => MW h cI u1 past pasts bef tri tex typed ati) F hK hA hP hD hS (c_X4_takesIn hB) (cwV 1 hts gX4_does_X4_takesIn rfl rfl rfl (by decide +kernel) ⟨Nat.le_of_ble_eq_true rfl, Nat.le_of_ble_eq_true rfl⟩) [0, 1, 2, 3, 4, 5] [] [0, 1, 2, 3, 4, 5] ([]) rfl rfl (fun _ => rfl) (by decide) (by decide) 0 rfl rfl rfl hl.1 rfl (Nat.le_of_ble_eq_true rfl) ⟨Nat.zero_le _, Nat.zero_le _⟩ dX4_does_119 (fun r1 u1 H locs hw_9 hP hD hS => ?_)
    try dsimp only at hw_9 hP hD
    obtain ⟨rfl, rfl⟩ := hw_9
    have hP : va_P D vwCl (MW h cI ((tiA now x).2) past pasts bef tri tex typed ati) H := hP
    have hD : va_D A0 (MW h cI ((tiA now x).2) past pasts bef tri tex typed ati) := hD
    exact RETN _ _ ((tiA now x).1) ((tiA now x).2) _ _ dX4_does_122 (rfl) (⟨rfl, rfl⟩) hP hD hS
  ·
    skip
    refine lv_iload_n hx hb dX4_does_0 rfl (lv_at hl 1 rfl) ?_
    refine lv_tableIn (off := 122) (tgt := 123) hx hb dX4_does_1 (by decide) (by decide) rfl (by decide) ?_
    refine lv_aload_n hx hb dX4_does_123 rfl (lv_at hl 0 rfl) ?_
    refine lv_iload_n hx hb dX4_does_124 rfl (lv_at hl 2 rfl) ?_
    refine cl_Vi (b := (h 0)) (As := [.int x]) (rest := []) (wc := MW h cI now past pasts bef tri tex typed ati) (wsN := fun (u1 : Nat → Int32) => MW h cI u1 past pasts bef tri tex typed ati) F hK hA hP hD hS (c_X4_damages) (cwV 1 hts gX4_does_X4_damages rfl rfl rfl (by decide +kernel) ⟨Nat.le_of_ble_eq_true rfl, Nat.le_of_ble_eq_true rfl⟩) [0, 1, 2, 3, 4, 5] [] [0, 1, 2, 3, 4, 5] ([]) rfl rfl (fun _ => rfl) (by decide) (by decide) 0 rfl rfl rfl hl.1 rfl (Nat.le_of_ble_eq_true rfl) ⟨Nat.zero_le _, Nat.zero_le _⟩ dX4_does_125 (fun r1 u1 H locs hw_11 hP hD hS => ?_)
    try dsimp only at hw_11 hP hD
    obtain ⟨rfl, rfl⟩ := hw_11
    have hP : va_P D vwCl (MW h cI ((dmA now x).2) past pasts bef tri tex typed ati) H := hP
    have hD : va_D A0 (MW h cI ((dmA now x).2) past pasts bef tri tex typed ati) := hD
    exact RETN _ _ ((dmA now x).1) ((dmA now x).2) _ _ dX4_does_128 (rfl) (⟨rfl, rfl⟩) hP hD hS
  ·
    skip
    refine lv_iload_n hx hb dX4_does_0 rfl (lv_at hl 1 rfl) ?_
    refine lv_tableOut (tgt := 129) hx hb dX4_does_1 (by decide) (by decide) ?_
    refine lv_aload_n hx hb dX4_does_129 rfl (lv_at hl 0 rfl) ?_
    refine cl_Vi (b := (h 0)) (As := []) (rest := []) (wc := MW h cI now past pasts bef tri tex typed ati) (wsN := fun (u1 : Nat → Int32) => MW h cI u1 past pasts bef tri tex typed ati) F hK hA hP hD hS (c_X4_repairs) (cwV 0 hts gX4_does_X4_repairs rfl rfl rfl (by decide +kernel) ⟨Nat.le_of_ble_eq_true rfl, Nat.le_of_ble_eq_true rfl⟩) [0, 1, 2, 3, 4, 5] [] [0, 1, 2, 3, 4, 5] ([]) rfl rfl (fun _ => rfl) (by decide) (by decide) 0 rfl rfl rfl hl.1 rfl (Nat.le_of_ble_eq_true rfl) ⟨Nat.zero_le _, Nat.zero_le _⟩ dX4_does_130 (fun r1 u1 H locs hw_13 hP hD hS => ?_)
    try dsimp only at hw_13 hP hD
    obtain ⟨rfl, rfl⟩ := hw_13
    have hP : va_P D vwCl (MW h cI ((rpA now).2) past pasts bef tri tex typed ati) H := hP
    have hD : va_D A0 (MW h cI ((rpA now).2) past pasts bef tri tex typed ati) := hD
    exact RETN _ _ ((rpA now).1) ((rpA now).2) _ _ dX4_does_133 (rfl) (⟨rfl, rfl⟩) hP hD hS
set_option maxHeartbeats 4000000 in
set_option maxRecDepth 100000 in
theorem c_X4_isLetter {l : Launch} {D : va_G} {cI cG cC cR : ClassId} {v : Int32} : CtI l yX4_isLetter wsX4_isLetter { frames := 0, cells := 0, slots := 0, locals := 0 } D (TY cI cG cC cR) [.int v] ([]) (fun (_ : Unit) => []) (fun (r : Int32) (_ : Unit) => r = bI (ltB v)) := by
  refine CtI.of (cc := cX4_isLetter) (maxL := 1) (ty := .boolean) (by decide) rfl (Nat.le_of_ble_eq_true rfl) ?_
  intro P0 e0 s0 m0 a0 b0 t0 c0 A0 Q0 ls F hK hP hD hA RETN hl
  obtain ⟨hx, hb, hml, hown, hts⟩ := id F
  have hS : va_S A0 s0.heap s0.heap [] := va_S.rf
  have hl : lv_has ls 1 [(0, .int v)] := hl
  refine lv_iload_n hx hb dX4_isLetter_0 rfl (lv_at hl 0 rfl) ?_
  refine lv_bipush (v := (nI 116)) hx hb dX4_isLetter_1 (by decide) ?_
  refine lv_icmp_eq (tgt := 42) hx hb dX4_isLetter_3 (by decide) (fun c3 => ?_) (fun c3 => ?_)
  · skip
    refine lv_iconst (v := (nI 1)) hx hb dX4_isLetter_42 (by decide) ?_
    refine lv_goto (tgt := 47) hx hb dX4_isLetter_43 (by decide) ?_
    exact RETN _ _ (nI 1) () _ _ dX4_isLetter_47 (rfl) (bI_t (by simp [ltB, c3])) hP hD hS
  · skip
    refine lv_iload_n hx hb dX4_isLetter_6 rfl (lv_at hl 0 rfl) ?_
    refine lv_bipush (v := (nI 102)) hx hb dX4_isLetter_7 (by decide) ?_
    refine lv_icmp_eq (tgt := 42) hx hb dX4_isLetter_9 (by decide) (fun c9 => ?_) (fun c9 => ?_)
    · skip
      refine lv_iconst (v := (nI 1)) hx hb dX4_isLetter_42 (by decide) ?_
      refine lv_goto (tgt := 47) hx hb dX4_isLetter_43 (by decide) ?_
      exact RETN _ _ (nI 1) () _ _ dX4_isLetter_47 (rfl) (bI_t (by simp [ltB, c9])) hP hD hS
    · skip
      refine lv_iload_n hx hb dX4_isLetter_12 rfl (lv_at hl 0 rfl) ?_
      refine lv_bipush (v := (nI 99)) hx hb dX4_isLetter_13 (by decide) ?_
      refine lv_icmp_eq (tgt := 42) hx hb dX4_isLetter_15 (by decide) (fun c15 => ?_) (fun c15 => ?_)
      · skip
        refine lv_iconst (v := (nI 1)) hx hb dX4_isLetter_42 (by decide) ?_
        refine lv_goto (tgt := 47) hx hb dX4_isLetter_43 (by decide) ?_
        exact RETN _ _ (nI 1) () _ _ dX4_isLetter_47 (rfl) (bI_t (by simp [ltB, c15])) hP hD hS
      · skip
        refine lv_iload_n hx hb dX4_isLetter_18 rfl (lv_at hl 0 rfl) ?_
        refine lv_bipush (v := (nI 114)) hx hb dX4_isLetter_19 (by decide) ?_
        refine lv_icmp_eq (tgt := 42) hx hb dX4_isLetter_21 (by decide) (fun c21 => ?_) (fun c21 => ?_)
        · skip
          refine lv_iconst (v := (nI 1)) hx hb dX4_isLetter_42 (by decide) ?_
          refine lv_goto (tgt := 47) hx hb dX4_isLetter_43 (by decide) ?_
          exact RETN _ _ (nI 1) () _ _ dX4_isLetter_47 (rfl) (bI_t (by simp [ltB, c21])) hP hD hS
        · skip
          refine lv_iload_n hx hb dX4_isLetter_24 rfl (lv_at hl 0 rfl) ?_
          refine lv_bipush (v := (nI 98)) hx hb dX4_isLetter_25 (by decide) ?_
          refine lv_icmp_eq (tgt := 42) hx hb dX4_isLetter_27 (by decide) (fun c27 => ?_) (fun c27 => ?_)
          · skip
            refine lv_iconst (v := (nI 1)) hx hb dX4_isLetter_42 (by decide) ?_
            refine lv_goto (tgt := 47) hx hb dX4_isLetter_43 (by decide) ?_
            exact RETN _ _ (nI 1) () _ _ dX4_isLetter_47 (rfl) (bI_t (by simp [ltB, c27])) hP hD hS
          · skip
            refine lv_iload_n hx hb dX4_isLetter_30 rfl (lv_at hl 0 rfl) ?_
            refine lv_bipush (v := (nI 100)) hx hb dX4_isLetter_31 (by decide) ?_
            refine lv_icmp_eq (tgt := 42) hx hb dX4_isLetter_33 (by decide) (fun c33 => ?_) (fun c33 => ?_)
            · skip
              refine lv_iconst (v := (nI 1)) hx hb dX4_isLetter_42 (by decide) ?_
              refine lv_goto (tgt := 47) hx hb dX4_isLetter_43 (by decide) ?_
              exact RETN _ _ (nI 1) () _ _ dX4_isLetter_47 (rfl) (bI_t (by simp [ltB, c33])) hP hD hS
            · skip
              refine lv_iload_n hx hb dX4_isLetter_36 rfl (lv_at hl 0 rfl) ?_
              refine lv_bipush (v := (nI 97)) hx hb dX4_isLetter_37 (by decide) ?_
              refine lv_icmp_ne (tgt := 46) hx hb dX4_isLetter_39 (by decide) (fun c39 => ?_) (fun c39 => ?_)
              · skip
                refine lv_iconst (v := (nI 0)) hx hb dX4_isLetter_46 (by decide) ?_
                exact RETN _ _ (nI 0) () _ _ dX4_isLetter_47 (rfl) (bI_f (by simp [ltB, c3, c9, c15, c21, c27, c33, c39])) hP hD hS
              · skip
                refine lv_iconst (v := (nI 1)) hx hb dX4_isLetter_42 (by decide) ?_
                refine lv_goto (tgt := 47) hx hb dX4_isLetter_43 (by decide) ?_
                exact RETN _ _ (nI 1) () _ _ dX4_isLetter_47 (rfl) (bI_t (by simp [ltB, c39])) hP hD hS
set_option maxHeartbeats 4000000 in
set_option maxRecDepth 100000 in
theorem c_X4_runsOne {l : Launch} {D : va_G} {cI cG cC cR : ClassId} {h : Nat → Nat} {now past bef tri tex : Nat → Int32} {pasts : Int32} {tl : Nat} (htl : tl ≤ 80) {a : Nat} (ha : a < tl) (hB : BInv now) : CtI l yX4_runsOne wsX4_runsOne { frames := 7, cells := 0, slots := 0, locals := 159 } D (TY cI cG cC cR) [.ref (h 0)] (MW h cI now past pasts bef tri tex (nI tl) (nI a)) (fun (_ : Unit) => MW h cI ((ro now tex tl a).2.2) past pasts bef tri tex (nI tl) (nI ((ro now tex tl a).2.1))) (fun (r : Int32) (_ : Unit) => r = bI (ro now tex tl a).1) := by
  refine CtI.of (cc := cX4_runsOne) (maxL := 6) (ty := .boolean) (by decide) rfl (Nat.le_of_ble_eq_true rfl) ?_
  intro P0 e0 s0 m0 a0 b0 t0 c0 A0 Q0 ls F hK hP hD hA RETN hl
  obtain ⟨hx, hb, hml, hown, hts⟩ := id F
  have hS : va_S A0 s0.heap s0.heap [] := va_S.rf
  have hl : lv_has ls 6 [(0, .ref (h 0))] := hl
  have lk105 := hts (.fieldLink RX4 105 "SlotMapsModel" "at" "I") (by decide +kernel)
  have hI4 : ∀ w ∈ u_ws RX4 TX4 8, w ∈ wsX4_runsOne := by decide +kernel
  refine lv_aload_n hx hb dX4_runsOne_0 rfl (lv_at hl 0 rfl) ?_
  refine lv_aload_n hx hb dX4_runsOne_1 rfl (lv_at hl 0 rfl) ?_
  refine va_get (D := D) (ci := 4) (v := .int (nI a)) (C := RX4) (T := TX4) (N := 8) hx hb hts hI4 hown hK.1 hP 0 rfl rfl 7 (by decide) lk105 (fun _ h9 => h9) rfl dX4_runsOne_2 ?_
  refine cl_Vi (b := (h 0)) (As := [.int (nI a)]) (rest := []) (wc := MW h cI now past pasts bef tri tex (nI tl) (nI a)) (wsN := fun (_ : Unit) => MW h cI now past pasts bef tri tex (nI tl) (nI a)) F hK hA hP hD hS (c_X4_signAt htl (by omega)) (cwV 1 hts gX4_runsOne_X4_signAt rfl rfl rfl (by decide +kernel) ⟨Nat.le_of_ble_eq_true rfl, Nat.le_of_ble_eq_true rfl⟩) [0, 1, 2, 3, 4, 5] [] [0, 1, 2, 3, 4, 5] ([]) rfl rfl (fun _ => rfl) (by decide) (by decide) 0 rfl rfl rfl hl.1 rfl (Nat.le_of_ble_eq_true rfl) ⟨Nat.zero_le _, Nat.zero_le _⟩ dX4_runsOne_5 (fun r_2 _ H locs hw_1 hP hD hS => ?_)
  try dsimp only at hw_1 hP hD
  obtain rfl : r_2 = (sg tex tl a) := hw_1
  refine lv_istore_n (lv' := [(1, .int (sg tex tl a)), (0, .ref (h 0))]) hx hb dX4_runsOne_8 rfl hl (by decide) rfl (fun ls hl => ?_)
  refine lv_aload_n hx hb dX4_runsOne_9 rfl (lv_at hl 1 rfl) ?_
  refine va_get (D := D) (ci := 4) (v := .int (nI a)) (C := RX4) (T := TX4) (N := 8) hx hb hts hI4 hown hK.1 hP 0 rfl rfl 7 (by decide) lk105 (fun _ h9 => h9) rfl dX4_runsOne_10 ?_
  refine lv_istore_n (lv' := [(2, .int (nI a)), (1, .int (sg tex tl a)), (0, .ref (h 0))]) hx hb dX4_runsOne_13 rfl hl (by decide) rfl (fun ls hl => ?_)
  refine lv_iload_n hx hb dX4_runsOne_14 rfl (lv_at hl 1 rfl) ?_
  refine cl_S0 (As := [.int (sg tex tl a)]) (rest := []) F hK hA hP hD hS (c_X4_isLetter) (va_cwS 1 hts gX4_runsOne_X4_isLetter rfl rfl rfl (by decide +kernel) ⟨Nat.le_of_ble_eq_true rfl, Nat.le_of_ble_eq_true rfl⟩) rfl hl.1 rfl (Nat.le_of_ble_eq_true rfl) ⟨Nat.zero_le _, Nat.zero_le _⟩ dX4_runsOne_15 (fun r_3 H locs hw_4 hP hS => ?_)
  try dsimp only at hw_4
  obtain rfl : r_3 = (bI (ltB (sg tex tl a))) := hw_4
  refine lv_if_ne (tgt := 23) hx hb dX4_runsOne_18 (by decide) (fun c18 => ?_) (fun c18 => ?_)
  · skip
    replace c18 : ¬ (bI (ltB (sg tex tl a))) = nI 0 := c18
    obtain ⟨k, hk, hkk⟩ := ltB_t (bI_ct c18)
    rw [hk] at hl
    refine lv_aload_n hx hb dX4_runsOne_23 rfl (lv_at hl 2 rfl) ?_
    refine lv_dup hx hb dX4_runsOne_24 rfl ?_
    refine va_get (D := D) (ci := 4) (v := .int (nI a)) (C := RX4) (T := TX4) (N := 8) hx hb hts hI4 hown hK.1 hP 0 rfl rfl 7 (by decide) lk105 (fun _ h9 => h9) rfl dX4_runsOne_25 ?_
    refine lv_iconst (v := (nI 1)) hx hb dX4_runsOne_28 (by decide) ?_
    refine lv_iadd hx hb dX4_runsOne_29 ?_
    refine n_as (x' := nI (a + 1)) (nI_add _ _) ?_
    refine va_put (D := D) (ci := 4) (v := .int (nI (a + 1))) (ty := .int) (C := RX4) (T := TX4) (N := 8) hx hb hts hI4 tyX4 tyX4_ok nmX4 hown hK.1 hP hD hS 0 rfl rfl 7 (by decide) lk105 (fun _ h9 => h9) rfl (by decide +kernel) rfl rfl (Nat.le_of_ble_eq_true rfl) dX4_runsOne_30 (fun H locs hP hD hS => ?_)
    have hP : va_P D vwCl (MW h cI now past pasts bef tri tex (nI tl) (nI (a + 1))) H := hP
    have hD : va_D A0 (MW h cI now past pasts bef tri tex (nI tl) (nI (a + 1))) := hD
    refine lv_iconst (v := (nI 1)) hx hb dX4_runsOne_33 (by decide) ?_
    refine lv_istore_n (lv' := [(3, .int (nI 1)), (2, .int (nI a)), (1, .int (nI k)), (0, .ref (h 0))]) hx hb dX4_runsOne_34 rfl hl (by decide) rfl (fun ls hl => ?_)
    refine lv_iload_n hx hb dX4_runsOne_35 rfl (lv_at hl 2 rfl) ?_
    refine lv_bipush (v := (nI 97)) hx hb dX4_runsOne_36 (by decide) ?_
    refine lv_icmp_eq (tgt := 68) hx hb dX4_runsOne_38 (by decide) (fun c38 => ?_) (fun c38 => ?_)
    · skip
      replace c38 : k = 97 := by rw [nI_eq (by omega) (by omega)] at c38; exact c38
      refine lv_iload_n hx hb dX4_runsOne_68 rfl (lv_at hl 0 rfl) ?_
      refine lv_istore (lv' := [(4, .int (nI 1)), (3, .int (nI 1)), (2, .int (nI a)), (1, .int (nI k)), (0, .ref (h 0))]) hx hb dX4_runsOne_69 hl (by decide) rfl (fun ls hl => ?_)
      refine lv_iload_n hx hb dX4_runsOne_71 rfl (lv_at hl 3 rfl) ?_
      refine lv_bipush (v := (nI 102)) hx hb dX4_runsOne_72 (by decide) ?_
      refine lv_icmp_ne (tgt := 115) hx hb dX4_runsOne_74 (by decide) (fun c74 => ?_) (fun c74 => ?_)
      · skip
        replace c74 : ¬ k = 102 := by rw [nI_eq (by omega) (by omega)] at c74; exact c74
        refine lv_aload_n hx hb dX4_runsOne_115 rfl (lv_at hl 4 rfl) ?_
        refine lv_aload_n hx hb dX4_runsOne_116 rfl (lv_at hl 4 rfl) ?_
        refine va_get (D := D) (ci := 4) (v := .int (nI (a + 1))) (C := RX4) (T := TX4) (N := 8) hx hb hts hI4 hown hK.1 hP 0 rfl rfl 7 (by decide) lk105 (fun _ h9 => h9) rfl dX4_runsOne_117 ?_
        refine cl_Vi (b := (h 0)) (As := [.int (nI (a + 1))]) (rest := []) (wc := MW h cI now past pasts bef tri tex (nI tl) (nI (a + 1))) (wsN := fun (_ : Unit) => MW h cI now past pasts bef tri tex (nI tl) (nI (a + 1))) F hK hA hP hD hS (c_X4_signAt htl (by omega)) (cwV 1 hts gX4_runsOne_X4_signAt rfl rfl rfl (by decide +kernel) ⟨Nat.le_of_ble_eq_true rfl, Nat.le_of_ble_eq_true rfl⟩) [0, 1, 2, 3, 4, 5] [] [0, 1, 2, 3, 4, 5] ([]) rfl rfl (fun _ => rfl) (by decide) (by decide) 0 rfl rfl rfl hl.1 rfl (Nat.le_of_ble_eq_true rfl) ⟨Nat.zero_le _, Nat.zero_le _⟩ dX4_runsOne_120 (fun r_6 _ H locs hw_5 hP hD hS => ?_)
        try dsimp only at hw_5 hP hD
        obtain rfl : r_6 = (sg tex tl (a + 1)) := hw_5
        refine lv_bipush (v := (nI 59)) hx hb dX4_runsOne_123 (by decide) ?_
        refine lv_icmp_eq (tgt := 130) hx hb dX4_runsOne_125 (by decide) (fun c125 => ?_) (fun c125 => ?_)
        · skip
          refine lv_aload_n hx hb dX4_runsOne_130 rfl (lv_at hl 4 rfl) ?_
          refine lv_iload_n hx hb dX4_runsOne_131 rfl (lv_at hl 3 rfl) ?_
          refine lv_iload_n hx hb dX4_runsOne_132 rfl (lv_at hl 1 rfl) ?_
          refine lv_iload hx hb dX4_runsOne_133 (lv_at hl 0 rfl) ?_
          refine cl_Vi (b := (h 0)) (As := [.int (nI k), .int (nI 1), .int (nI 1)]) (rest := []) (wc := MW h cI now past pasts bef tri tex (nI tl) (nI (a + 1))) (wsN := fun (u1 : Nat → Int32) => MW h cI u1 past pasts bef tri tex (nI tl) (nI (a + 1))) F hK hA hP hD hS (c_X4_does (by omega) hB) (cwV 3 hts gX4_runsOne_X4_does rfl rfl rfl (by decide +kernel) ⟨Nat.le_of_ble_eq_true rfl, Nat.le_of_ble_eq_true rfl⟩) [0, 1, 2, 3, 4, 5] [] [0, 1, 2, 3, 4, 5] ([]) rfl rfl (fun _ => rfl) (by decide) (by decide) 0 rfl rfl rfl hl.1 rfl (Nat.le_of_ble_eq_true rfl) ⟨Nat.zero_le _, Nat.zero_le _⟩ dX4_runsOne_135 (fun r1 u1 H locs hw_7 hP hD hS => ?_)
          try dsimp only at hw_7 hP hD
          obtain ⟨rfl, rfl⟩ := hw_7
          have hP : va_P D vwCl (MW h cI ((doA now k (nI 1) (nI 1)).2) past pasts bef tri tex (nI tl) (nI (a + 1))) H := hP
          have hD : va_D A0 (MW h cI ((doA now k (nI 1) (nI 1)).2) past pasts bef tri tex (nI tl) (nI (a + 1))) := hD
          refine lv_if_lt (tgt := 145) hx hb dX4_runsOne_138 (by decide) (fun c138 => ?_) (fun c138 => ?_)
          · skip
            refine lv_iconst (v := (nI 0)) hx hb dX4_runsOne_145 (by decide) ?_
            refine lv_istore (lv' := [(5, .int (nI 0)), (4, .int (nI 1)), (3, .int (nI 1)), (2, .int (nI a)), (1, .int (nI k)), (0, .ref (h 0))]) hx hb dX4_runsOne_146 hl (by decide) rfl (fun ls hl => ?_)
            refine lv_aload_n hx hb dX4_runsOne_148 rfl (lv_at hl 5 rfl) ?_
            refine lv_iload hx hb dX4_runsOne_149 (lv_at hl 0 rfl) ?_
            refine lv_if_eq (tgt := 163) hx hb dX4_runsOne_151 (by decide) (fun c151 => ?_) (fun c151 => ?_)
            · skip
              refine lv_iload_n hx hb dX4_runsOne_163 rfl (lv_at hl 3 rfl) ?_
              refine va_put (D := D) (ci := 4) (v := .int (nI a)) (ty := .int) (C := RX4) (T := TX4) (N := 8) hx hb hts hI4 tyX4 tyX4_ok nmX4 hown hK.1 hP hD hS 0 rfl rfl 7 (by decide) lk105 (fun _ h9 => h9) rfl (by decide +kernel) rfl rfl (Nat.le_of_ble_eq_true rfl) dX4_runsOne_164 (fun H locs hP hD hS => ?_)
              have hP : va_P D vwCl (MW h cI ((doA now k (nI 1) (nI 1)).2) past pasts bef tri tex (nI tl) (nI a)) H := hP
              have hD : va_D A0 (MW h cI ((doA now k (nI 1) (nI 1)).2) past pasts bef tri tex (nI tl) (nI a)) := hD
              refine lv_iload hx hb dX4_runsOne_167 (lv_at hl 0 rfl) ?_
              have e : ro now tex tl a = (false, a, (doA now k (nI 1) (nI 1)).2) := by rw [ro_k (bI_ct c18) hk (by omega), roL_1 (Or.inl c38), roF_1 (Or.inl c74), roE_2 c125 c138]
              have hP : va_P D vwCl (MW h cI (ro now tex tl a).2.2 past pasts bef tri tex (nI tl) (nI (ro now tex tl a).2.1)) H := by rw [e]; exact hP
              have hD : va_D A0 (MW h cI (ro now tex tl a).2.2 past pasts bef tri tex (nI tl) (nI (ro now tex tl a).2.1)) := by rw [e]; exact hD
              exact RETN _ _ (nI 0) () _ _ dX4_runsOne_169 (rfl) (by rw [e]; rfl) hP hD hS
            · skip
              exfalso
              exact absurd c151 (by decide)
          · skip
            refine lv_iconst (v := (nI 1)) hx hb dX4_runsOne_141 (by decide) ?_
            refine lv_goto (tgt := 146) hx hb dX4_runsOne_142 (by decide) ?_
            refine lv_istore (lv' := [(5, .int (nI 1)), (4, .int (nI 1)), (3, .int (nI 1)), (2, .int (nI a)), (1, .int (nI k)), (0, .ref (h 0))]) hx hb dX4_runsOne_146 hl (by decide) rfl (fun ls hl => ?_)
            refine lv_aload_n hx hb dX4_runsOne_148 rfl (lv_at hl 5 rfl) ?_
            refine lv_iload hx hb dX4_runsOne_149 (lv_at hl 0 rfl) ?_
            refine lv_if_eq (tgt := 163) hx hb dX4_runsOne_151 (by decide) (fun c151 => ?_) (fun c151 => ?_)
            · skip
              exfalso
              exact absurd c151 (by decide)
            · skip
              refine lv_aload_n hx hb dX4_runsOne_154 rfl (lv_at hl 5 rfl) ?_
              refine va_get (D := D) (ci := 4) (v := .int (nI (a + 1))) (C := RX4) (T := TX4) (N := 8) hx hb hts hI4 hown hK.1 hP 0 rfl rfl 7 (by decide) lk105 (fun _ h9 => h9) rfl dX4_runsOne_155 ?_
              refine lv_iconst (v := (nI 1)) hx hb dX4_runsOne_158 (by decide) ?_
              refine lv_iadd hx hb dX4_runsOne_159 ?_
              refine n_as (x' := nI ((a + 1) + 1)) (nI_add _ _) ?_
              refine lv_goto (tgt := 164) hx hb dX4_runsOne_160 (by decide) ?_
              refine va_put (D := D) (ci := 4) (v := .int (nI ((a + 1) + 1))) (ty := .int) (C := RX4) (T := TX4) (N := 8) hx hb hts hI4 tyX4 tyX4_ok nmX4 hown hK.1 hP hD hS 0 rfl rfl 7 (by decide) lk105 (fun _ h9 => h9) rfl (by decide +kernel) rfl rfl (Nat.le_of_ble_eq_true rfl) dX4_runsOne_164 (fun H locs hP hD hS => ?_)
              have hP : va_P D vwCl (MW h cI ((doA now k (nI 1) (nI 1)).2) past pasts bef tri tex (nI tl) (nI ((a + 1) + 1))) H := hP
              have hD : va_D A0 (MW h cI ((doA now k (nI 1) (nI 1)).2) past pasts bef tri tex (nI tl) (nI ((a + 1) + 1))) := hD
              refine lv_iload hx hb dX4_runsOne_167 (lv_at hl 0 rfl) ?_
              have e : ro now tex tl a = (true, ((a + 1) + 1), (doA now k (nI 1) (nI 1)).2) := by rw [ro_k (bI_ct c18) hk (by omega), roL_1 (Or.inl c38), roF_1 (Or.inl c74), roE_3 c125 c138]
              have hP : va_P D vwCl (MW h cI (ro now tex tl a).2.2 past pasts bef tri tex (nI tl) (nI (ro now tex tl a).2.1)) H := by rw [e]; exact hP
              have hD : va_D A0 (MW h cI (ro now tex tl a).2.2 past pasts bef tri tex (nI tl) (nI (ro now tex tl a).2.1)) := by rw [e]; exact hD
              exact RETN _ _ (nI 1) () _ _ dX4_runsOne_169 (rfl) (by rw [e]; rfl) hP hD hS
        · skip
          refine lv_iconst (v := (nI 0)) hx hb dX4_runsOne_128 (by decide) ?_
          have e : ro now tex tl a = (false, (a + 1), now) := by rw [ro_k (bI_ct c18) hk (by omega), roL_1 (Or.inl c38), roF_1 (Or.inl c74), roE_1 c125]
          have hP : va_P D vwCl (MW h cI (ro now tex tl a).2.2 past pasts bef tri tex (nI tl) (nI (ro now tex tl a).2.1)) H := by rw [e]; exact hP
          have hD : va_D A0 (MW h cI (ro now tex tl a).2.2 past pasts bef tri tex (nI tl) (nI (ro now tex tl a).2.1)) := by rw [e]; exact hD
          exact RETN _ _ (nI 0) () _ _ dX4_runsOne_129 (rfl) (by rw [e]; rfl) hP hD hS
      · skip
        replace c74 : k = 102 := by rw [nI_eq (by omega) (by omega)] at c74; exact c74
        refine lv_aload_n hx hb dX4_runsOne_77 rfl (lv_at hl 4 rfl) ?_
        refine lv_aload_n hx hb dX4_runsOne_78 rfl (lv_at hl 4 rfl) ?_
        refine va_get (D := D) (ci := 4) (v := .int (nI (a + 1))) (C := RX4) (T := TX4) (N := 8) hx hb hts hI4 hown hK.1 hP 0 rfl rfl 7 (by decide) lk105 (fun _ h9 => h9) rfl dX4_runsOne_79 ?_
        refine cl_Vi (b := (h 0)) (As := [.int (nI (a + 1))]) (rest := []) (wc := MW h cI now past pasts bef tri tex (nI tl) (nI (a + 1))) (wsN := fun (_ : Unit) => MW h cI now past pasts bef tri tex (nI tl) (nI (a + 1))) F hK hA hP hD hS (c_X4_signAt htl (by omega)) (cwV 1 hts gX4_runsOne_X4_signAt rfl rfl rfl (by decide +kernel) ⟨Nat.le_of_ble_eq_true rfl, Nat.le_of_ble_eq_true rfl⟩) [0, 1, 2, 3, 4, 5] [] [0, 1, 2, 3, 4, 5] ([]) rfl rfl (fun _ => rfl) (by decide) (by decide) 0 rfl rfl rfl hl.1 rfl (Nat.le_of_ble_eq_true rfl) ⟨Nat.zero_le _, Nat.zero_le _⟩ dX4_runsOne_82 (fun r_10 _ H locs hw_9 hP hD hS => ?_)
        try dsimp only at hw_9 hP hD
        obtain rfl : r_10 = (sg tex tl (a + 1)) := hw_9
        refine lv_bipush (v := (nI 45)) hx hb dX4_runsOne_85 (by decide) ?_
        refine lv_icmp_ne (tgt := 115) hx hb dX4_runsOne_87 (by decide) (fun c87 => ?_) (fun c87 => ?_)
        · skip
          refine lv_aload_n hx hb dX4_runsOne_115 rfl (lv_at hl 4 rfl) ?_
          refine lv_aload_n hx hb dX4_runsOne_116 rfl (lv_at hl 4 rfl) ?_
          refine va_get (D := D) (ci := 4) (v := .int (nI (a + 1))) (C := RX4) (T := TX4) (N := 8) hx hb hts hI4 hown hK.1 hP 0 rfl rfl 7 (by decide) lk105 (fun _ h9 => h9) rfl dX4_runsOne_117 ?_
          refine cl_Vi (b := (h 0)) (As := [.int (nI (a + 1))]) (rest := []) (wc := MW h cI now past pasts bef tri tex (nI tl) (nI (a + 1))) (wsN := fun (_ : Unit) => MW h cI now past pasts bef tri tex (nI tl) (nI (a + 1))) F hK hA hP hD hS (c_X4_signAt htl (by omega)) (cwV 1 hts gX4_runsOne_X4_signAt rfl rfl rfl (by decide +kernel) ⟨Nat.le_of_ble_eq_true rfl, Nat.le_of_ble_eq_true rfl⟩) [0, 1, 2, 3, 4, 5] [] [0, 1, 2, 3, 4, 5] ([]) rfl rfl (fun _ => rfl) (by decide) (by decide) 0 rfl rfl rfl hl.1 rfl (Nat.le_of_ble_eq_true rfl) ⟨Nat.zero_le _, Nat.zero_le _⟩ dX4_runsOne_120 (fun r_12 _ H locs hw_11 hP hD hS => ?_)
          try dsimp only at hw_11 hP hD
          obtain rfl : r_12 = (sg tex tl (a + 1)) := hw_11
          refine lv_bipush (v := (nI 59)) hx hb dX4_runsOne_123 (by decide) ?_
          refine lv_icmp_eq (tgt := 130) hx hb dX4_runsOne_125 (by decide) (fun c125 => ?_) (fun c125 => ?_)
          · skip
            refine lv_aload_n hx hb dX4_runsOne_130 rfl (lv_at hl 4 rfl) ?_
            refine lv_iload_n hx hb dX4_runsOne_131 rfl (lv_at hl 3 rfl) ?_
            refine lv_iload_n hx hb dX4_runsOne_132 rfl (lv_at hl 1 rfl) ?_
            refine lv_iload hx hb dX4_runsOne_133 (lv_at hl 0 rfl) ?_
            refine cl_Vi (b := (h 0)) (As := [.int (nI k), .int (nI 1), .int (nI 1)]) (rest := []) (wc := MW h cI now past pasts bef tri tex (nI tl) (nI (a + 1))) (wsN := fun (u1 : Nat → Int32) => MW h cI u1 past pasts bef tri tex (nI tl) (nI (a + 1))) F hK hA hP hD hS (c_X4_does (by omega) hB) (cwV 3 hts gX4_runsOne_X4_does rfl rfl rfl (by decide +kernel) ⟨Nat.le_of_ble_eq_true rfl, Nat.le_of_ble_eq_true rfl⟩) [0, 1, 2, 3, 4, 5] [] [0, 1, 2, 3, 4, 5] ([]) rfl rfl (fun _ => rfl) (by decide) (by decide) 0 rfl rfl rfl hl.1 rfl (Nat.le_of_ble_eq_true rfl) ⟨Nat.zero_le _, Nat.zero_le _⟩ dX4_runsOne_135 (fun r1 u1 H locs hw_13 hP hD hS => ?_)
            try dsimp only at hw_13 hP hD
            obtain ⟨rfl, rfl⟩ := hw_13
            have hP : va_P D vwCl (MW h cI ((doA now k (nI 1) (nI 1)).2) past pasts bef tri tex (nI tl) (nI (a + 1))) H := hP
            have hD : va_D A0 (MW h cI ((doA now k (nI 1) (nI 1)).2) past pasts bef tri tex (nI tl) (nI (a + 1))) := hD
            refine lv_if_lt (tgt := 145) hx hb dX4_runsOne_138 (by decide) (fun c138 => ?_) (fun c138 => ?_)
            · skip
              refine lv_iconst (v := (nI 0)) hx hb dX4_runsOne_145 (by decide) ?_
              refine lv_istore (lv' := [(5, .int (nI 0)), (4, .int (nI 1)), (3, .int (nI 1)), (2, .int (nI a)), (1, .int (nI k)), (0, .ref (h 0))]) hx hb dX4_runsOne_146 hl (by decide) rfl (fun ls hl => ?_)
              refine lv_aload_n hx hb dX4_runsOne_148 rfl (lv_at hl 5 rfl) ?_
              refine lv_iload hx hb dX4_runsOne_149 (lv_at hl 0 rfl) ?_
              refine lv_if_eq (tgt := 163) hx hb dX4_runsOne_151 (by decide) (fun c151 => ?_) (fun c151 => ?_)
              · skip
                refine lv_iload_n hx hb dX4_runsOne_163 rfl (lv_at hl 3 rfl) ?_
                refine va_put (D := D) (ci := 4) (v := .int (nI a)) (ty := .int) (C := RX4) (T := TX4) (N := 8) hx hb hts hI4 tyX4 tyX4_ok nmX4 hown hK.1 hP hD hS 0 rfl rfl 7 (by decide) lk105 (fun _ h9 => h9) rfl (by decide +kernel) rfl rfl (Nat.le_of_ble_eq_true rfl) dX4_runsOne_164 (fun H locs hP hD hS => ?_)
                have hP : va_P D vwCl (MW h cI ((doA now k (nI 1) (nI 1)).2) past pasts bef tri tex (nI tl) (nI a)) H := hP
                have hD : va_D A0 (MW h cI ((doA now k (nI 1) (nI 1)).2) past pasts bef tri tex (nI tl) (nI a)) := hD
                refine lv_iload hx hb dX4_runsOne_167 (lv_at hl 0 rfl) ?_
                have e : ro now tex tl a = (false, a, (doA now k (nI 1) (nI 1)).2) := by rw [ro_k (bI_ct c18) hk (by omega), roL_1 (Or.inl c38), roF_1 (Or.inr c87), roE_2 c125 c138]
                have hP : va_P D vwCl (MW h cI (ro now tex tl a).2.2 past pasts bef tri tex (nI tl) (nI (ro now tex tl a).2.1)) H := by rw [e]; exact hP
                have hD : va_D A0 (MW h cI (ro now tex tl a).2.2 past pasts bef tri tex (nI tl) (nI (ro now tex tl a).2.1)) := by rw [e]; exact hD
                exact RETN _ _ (nI 0) () _ _ dX4_runsOne_169 (rfl) (by rw [e]; rfl) hP hD hS
              · skip
                exfalso
                exact absurd c151 (by decide)
            · skip
              refine lv_iconst (v := (nI 1)) hx hb dX4_runsOne_141 (by decide) ?_
              refine lv_goto (tgt := 146) hx hb dX4_runsOne_142 (by decide) ?_
              refine lv_istore (lv' := [(5, .int (nI 1)), (4, .int (nI 1)), (3, .int (nI 1)), (2, .int (nI a)), (1, .int (nI k)), (0, .ref (h 0))]) hx hb dX4_runsOne_146 hl (by decide) rfl (fun ls hl => ?_)
              refine lv_aload_n hx hb dX4_runsOne_148 rfl (lv_at hl 5 rfl) ?_
              refine lv_iload hx hb dX4_runsOne_149 (lv_at hl 0 rfl) ?_
              refine lv_if_eq (tgt := 163) hx hb dX4_runsOne_151 (by decide) (fun c151 => ?_) (fun c151 => ?_)
              · skip
                exfalso
                exact absurd c151 (by decide)
              · skip
                refine lv_aload_n hx hb dX4_runsOne_154 rfl (lv_at hl 5 rfl) ?_
                refine va_get (D := D) (ci := 4) (v := .int (nI (a + 1))) (C := RX4) (T := TX4) (N := 8) hx hb hts hI4 hown hK.1 hP 0 rfl rfl 7 (by decide) lk105 (fun _ h9 => h9) rfl dX4_runsOne_155 ?_
                refine lv_iconst (v := (nI 1)) hx hb dX4_runsOne_158 (by decide) ?_
                refine lv_iadd hx hb dX4_runsOne_159 ?_
                refine n_as (x' := nI ((a + 1) + 1)) (nI_add _ _) ?_
                refine lv_goto (tgt := 164) hx hb dX4_runsOne_160 (by decide) ?_
                refine va_put (D := D) (ci := 4) (v := .int (nI ((a + 1) + 1))) (ty := .int) (C := RX4) (T := TX4) (N := 8) hx hb hts hI4 tyX4 tyX4_ok nmX4 hown hK.1 hP hD hS 0 rfl rfl 7 (by decide) lk105 (fun _ h9 => h9) rfl (by decide +kernel) rfl rfl (Nat.le_of_ble_eq_true rfl) dX4_runsOne_164 (fun H locs hP hD hS => ?_)
                have hP : va_P D vwCl (MW h cI ((doA now k (nI 1) (nI 1)).2) past pasts bef tri tex (nI tl) (nI ((a + 1) + 1))) H := hP
                have hD : va_D A0 (MW h cI ((doA now k (nI 1) (nI 1)).2) past pasts bef tri tex (nI tl) (nI ((a + 1) + 1))) := hD
                refine lv_iload hx hb dX4_runsOne_167 (lv_at hl 0 rfl) ?_
                have e : ro now tex tl a = (true, ((a + 1) + 1), (doA now k (nI 1) (nI 1)).2) := by rw [ro_k (bI_ct c18) hk (by omega), roL_1 (Or.inl c38), roF_1 (Or.inr c87), roE_3 c125 c138]
                have hP : va_P D vwCl (MW h cI (ro now tex tl a).2.2 past pasts bef tri tex (nI tl) (nI (ro now tex tl a).2.1)) H := by rw [e]; exact hP
                have hD : va_D A0 (MW h cI (ro now tex tl a).2.2 past pasts bef tri tex (nI tl) (nI (ro now tex tl a).2.1)) := by rw [e]; exact hD
                exact RETN _ _ (nI 1) () _ _ dX4_runsOne_169 (rfl) (by rw [e]; rfl) hP hD hS
          · skip
            refine lv_iconst (v := (nI 0)) hx hb dX4_runsOne_128 (by decide) ?_
            have e : ro now tex tl a = (false, (a + 1), now) := by rw [ro_k (bI_ct c18) hk (by omega), roL_1 (Or.inl c38), roF_1 (Or.inr c87), roE_1 c125]
            have hP : va_P D vwCl (MW h cI (ro now tex tl a).2.2 past pasts bef tri tex (nI tl) (nI (ro now tex tl a).2.1)) H := by rw [e]; exact hP
            have hD : va_D A0 (MW h cI (ro now tex tl a).2.2 past pasts bef tri tex (nI tl) (nI (ro now tex tl a).2.1)) := by rw [e]; exact hD
            exact RETN _ _ (nI 0) () _ _ dX4_runsOne_129 (rfl) (by rw [e]; rfl) hP hD hS
        · skip
          refine lv_aload_n hx hb dX4_runsOne_90 rfl (lv_at hl 4 rfl) ?_
          refine lv_dup hx hb dX4_runsOne_91 rfl ?_
          refine va_get (D := D) (ci := 4) (v := .int (nI (a + 1))) (C := RX4) (T := TX4) (N := 8) hx hb hts hI4 hown hK.1 hP 0 rfl rfl 7 (by decide) lk105 (fun _ h9 => h9) rfl dX4_runsOne_92 ?_
          refine lv_iconst (v := (nI 1)) hx hb dX4_runsOne_95 (by decide) ?_
          refine lv_iadd hx hb dX4_runsOne_96 ?_
          refine n_as (x' := nI ((a + 1) + 1)) (nI_add _ _) ?_
          refine va_put (D := D) (ci := 4) (v := .int (nI ((a + 1) + 1))) (ty := .int) (C := RX4) (T := TX4) (N := 8) hx hb hts hI4 tyX4 tyX4_ok nmX4 hown hK.1 hP hD hS 0 rfl rfl 7 (by decide) lk105 (fun _ h9 => h9) rfl (by decide +kernel) rfl rfl (Nat.le_of_ble_eq_true rfl) dX4_runsOne_97 (fun H locs hP hD hS => ?_)
          have hP : va_P D vwCl (MW h cI now past pasts bef tri tex (nI tl) (nI ((a + 1) + 1))) H := hP
          have hD : va_D A0 (MW h cI now past pasts bef tri tex (nI tl) (nI ((a + 1) + 1))) := hD
          refine lv_aload_n hx hb dX4_runsOne_100 rfl (lv_at hl 4 rfl) ?_
          refine cl_Vi (b := (h 0)) (As := []) (rest := []) (wc := MW h cI now past pasts bef tri tex (nI tl) (nI ((a + 1) + 1))) (wsN := fun (_ : Unit) => MW h cI now past pasts bef tri tex (nI tl) (nI ((a + 1) + 1))) F hK hA hP hD hS (c_X4_isDigit htl (by omega)) (cwV 0 hts gX4_runsOne_X4_isDigit rfl rfl rfl (by decide +kernel) ⟨Nat.le_of_ble_eq_true rfl, Nat.le_of_ble_eq_true rfl⟩) [0, 1, 2, 3, 4, 5] [] [0, 1, 2, 3, 4, 5] ([]) rfl rfl (fun _ => rfl) (by decide) (by decide) 0 rfl rfl rfl hl.1 rfl (Nat.le_of_ble_eq_true rfl) ⟨Nat.zero_le _, Nat.zero_le _⟩ dX4_runsOne_101 (fun r_16 _ H locs hw_15 hP hD hS => ?_)
          try dsimp only at hw_15 hP hD
          obtain rfl : r_16 = (bI (dgB tex tl ((a + 1) + 1))) := hw_15
          refine lv_if_ne (tgt := 109) hx hb dX4_runsOne_104 (by decide) (fun c104 => ?_) (fun c104 => ?_)
          · skip
            replace c104 : ¬ (bI (dgB tex tl ((a + 1) + 1))) = nI 0 := c104
            refine lv_aload_n hx hb dX4_runsOne_109 rfl (lv_at hl 4 rfl) ?_
            refine cl_Vi (b := (h 0)) (As := []) (rest := []) (wc := MW h cI now past pasts bef tri tex (nI tl) (nI ((a + 1) + 1))) (wsN := fun (_ : Unit) => MW h cI now past pasts bef tri tex (nI tl) (nI ((nm tex tl ((a + 1) + 1)).2))) F hK hA hP hD hS (c_X4_number htl (bI_ct c104)) (cwV 0 hts gX4_runsOne_X4_number rfl rfl rfl (by decide +kernel) ⟨Nat.le_of_ble_eq_true rfl, Nat.le_of_ble_eq_true rfl⟩) [0, 1, 2, 3, 4, 5] [] [0, 1, 2, 3, 4, 5] ([]) rfl rfl (fun _ => rfl) (by decide) (by decide) 0 rfl rfl rfl hl.1 rfl (Nat.le_of_ble_eq_true rfl) ⟨Nat.zero_le _, Nat.zero_le _⟩ dX4_runsOne_110 (fun r_18 _ H locs hw_17 hP hD hS => ?_)
            try dsimp only at hw_17 hP hD
            obtain rfl : r_18 = (nI ((nm tex tl ((a + 1) + 1)).1)) := hw_17
            have hnmc104 := nm_in (bI_ct c104)
            obtain ⟨hduc104, hdvc104, hdwc104⟩ := dg_of (bI_ct c104)
            refine lv_istore (lv' := [(4, .int (nI ((nm tex tl ((a + 1) + 1)).1))), (3, .int (nI 1)), (2, .int (nI a)), (1, .int (nI k)), (0, .ref (h 0))]) hx hb dX4_runsOne_113 hl (by decide) rfl (fun ls hl => ?_)
            refine lv_aload_n hx hb dX4_runsOne_115 rfl (lv_at hl 4 rfl) ?_
            refine lv_aload_n hx hb dX4_runsOne_116 rfl (lv_at hl 4 rfl) ?_
            refine va_get (D := D) (ci := 4) (v := .int (nI ((nm tex tl ((a + 1) + 1)).2))) (C := RX4) (T := TX4) (N := 8) hx hb hts hI4 hown hK.1 hP 0 rfl rfl 7 (by decide) lk105 (fun _ h9 => h9) rfl dX4_runsOne_117 ?_
            refine cl_Vi (b := (h 0)) (As := [.int (nI ((nm tex tl ((a + 1) + 1)).2))]) (rest := []) (wc := MW h cI now past pasts bef tri tex (nI tl) (nI ((nm tex tl ((a + 1) + 1)).2))) (wsN := fun (_ : Unit) => MW h cI now past pasts bef tri tex (nI tl) (nI ((nm tex tl ((a + 1) + 1)).2))) F hK hA hP hD hS (c_X4_signAt htl (by omega)) (cwV 1 hts gX4_runsOne_X4_signAt rfl rfl rfl (by decide +kernel) ⟨Nat.le_of_ble_eq_true rfl, Nat.le_of_ble_eq_true rfl⟩) [0, 1, 2, 3, 4, 5] [] [0, 1, 2, 3, 4, 5] ([]) rfl rfl (fun _ => rfl) (by decide) (by decide) 0 rfl rfl rfl hl.1 rfl (Nat.le_of_ble_eq_true rfl) ⟨Nat.zero_le _, Nat.zero_le _⟩ dX4_runsOne_120 (fun r_20 _ H locs hw_19 hP hD hS => ?_)
            try dsimp only at hw_19 hP hD
            obtain rfl : r_20 = (sg tex tl ((nm tex tl ((a + 1) + 1)).2)) := hw_19
            refine lv_bipush (v := (nI 59)) hx hb dX4_runsOne_123 (by decide) ?_
            refine lv_icmp_eq (tgt := 130) hx hb dX4_runsOne_125 (by decide) (fun c125 => ?_) (fun c125 => ?_)
            · skip
              refine lv_aload_n hx hb dX4_runsOne_130 rfl (lv_at hl 4 rfl) ?_
              refine lv_iload_n hx hb dX4_runsOne_131 rfl (lv_at hl 3 rfl) ?_
              refine lv_iload_n hx hb dX4_runsOne_132 rfl (lv_at hl 1 rfl) ?_
              refine lv_iload hx hb dX4_runsOne_133 (lv_at hl 0 rfl) ?_
              refine cl_Vi (b := (h 0)) (As := [.int (nI k), .int (nI 1), .int (nI ((nm tex tl ((a + 1) + 1)).1))]) (rest := []) (wc := MW h cI now past pasts bef tri tex (nI tl) (nI ((nm tex tl ((a + 1) + 1)).2))) (wsN := fun (u1 : Nat → Int32) => MW h cI u1 past pasts bef tri tex (nI tl) (nI ((nm tex tl ((a + 1) + 1)).2))) F hK hA hP hD hS (c_X4_does (by omega) hB) (cwV 3 hts gX4_runsOne_X4_does rfl rfl rfl (by decide +kernel) ⟨Nat.le_of_ble_eq_true rfl, Nat.le_of_ble_eq_true rfl⟩) [0, 1, 2, 3, 4, 5] [] [0, 1, 2, 3, 4, 5] ([]) rfl rfl (fun _ => rfl) (by decide) (by decide) 0 rfl rfl rfl hl.1 rfl (Nat.le_of_ble_eq_true rfl) ⟨Nat.zero_le _, Nat.zero_le _⟩ dX4_runsOne_135 (fun r1 u1 H locs hw_21 hP hD hS => ?_)
              try dsimp only at hw_21 hP hD
              obtain ⟨rfl, rfl⟩ := hw_21
              have hP : va_P D vwCl (MW h cI ((doA now k (nI 1) (nI ((nm tex tl ((a + 1) + 1)).1))).2) past pasts bef tri tex (nI tl) (nI ((nm tex tl ((a + 1) + 1)).2))) H := hP
              have hD : va_D A0 (MW h cI ((doA now k (nI 1) (nI ((nm tex tl ((a + 1) + 1)).1))).2) past pasts bef tri tex (nI tl) (nI ((nm tex tl ((a + 1) + 1)).2))) := hD
              refine lv_if_lt (tgt := 145) hx hb dX4_runsOne_138 (by decide) (fun c138 => ?_) (fun c138 => ?_)
              · skip
                refine lv_iconst (v := (nI 0)) hx hb dX4_runsOne_145 (by decide) ?_
                refine lv_istore (lv' := [(5, .int (nI 0)), (4, .int (nI ((nm tex tl ((a + 1) + 1)).1))), (3, .int (nI 1)), (2, .int (nI a)), (1, .int (nI k)), (0, .ref (h 0))]) hx hb dX4_runsOne_146 hl (by decide) rfl (fun ls hl => ?_)
                refine lv_aload_n hx hb dX4_runsOne_148 rfl (lv_at hl 5 rfl) ?_
                refine lv_iload hx hb dX4_runsOne_149 (lv_at hl 0 rfl) ?_
                refine lv_if_eq (tgt := 163) hx hb dX4_runsOne_151 (by decide) (fun c151 => ?_) (fun c151 => ?_)
                · skip
                  refine lv_iload_n hx hb dX4_runsOne_163 rfl (lv_at hl 3 rfl) ?_
                  refine va_put (D := D) (ci := 4) (v := .int (nI a)) (ty := .int) (C := RX4) (T := TX4) (N := 8) hx hb hts hI4 tyX4 tyX4_ok nmX4 hown hK.1 hP hD hS 0 rfl rfl 7 (by decide) lk105 (fun _ h9 => h9) rfl (by decide +kernel) rfl rfl (Nat.le_of_ble_eq_true rfl) dX4_runsOne_164 (fun H locs hP hD hS => ?_)
                  have hP : va_P D vwCl (MW h cI ((doA now k (nI 1) (nI ((nm tex tl ((a + 1) + 1)).1))).2) past pasts bef tri tex (nI tl) (nI a)) H := hP
                  have hD : va_D A0 (MW h cI ((doA now k (nI 1) (nI ((nm tex tl ((a + 1) + 1)).1))).2) past pasts bef tri tex (nI tl) (nI a)) := hD
                  refine lv_iload hx hb dX4_runsOne_167 (lv_at hl 0 rfl) ?_
                  have e : ro now tex tl a = (false, a, (doA now k (nI 1) (nI ((nm tex tl ((a + 1) + 1)).1))).2) := by rw [ro_k (bI_ct c18) hk (by omega), roL_1 (Or.inl c38), roF_2 c74 c87 (bI_ct c104), roE_2 c125 c138]
                  have hP : va_P D vwCl (MW h cI (ro now tex tl a).2.2 past pasts bef tri tex (nI tl) (nI (ro now tex tl a).2.1)) H := by rw [e]; exact hP
                  have hD : va_D A0 (MW h cI (ro now tex tl a).2.2 past pasts bef tri tex (nI tl) (nI (ro now tex tl a).2.1)) := by rw [e]; exact hD
                  exact RETN _ _ (nI 0) () _ _ dX4_runsOne_169 (rfl) (by rw [e]; rfl) hP hD hS
                · skip
                  exfalso
                  exact absurd c151 (by decide)
              · skip
                refine lv_iconst (v := (nI 1)) hx hb dX4_runsOne_141 (by decide) ?_
                refine lv_goto (tgt := 146) hx hb dX4_runsOne_142 (by decide) ?_
                refine lv_istore (lv' := [(5, .int (nI 1)), (4, .int (nI ((nm tex tl ((a + 1) + 1)).1))), (3, .int (nI 1)), (2, .int (nI a)), (1, .int (nI k)), (0, .ref (h 0))]) hx hb dX4_runsOne_146 hl (by decide) rfl (fun ls hl => ?_)
                refine lv_aload_n hx hb dX4_runsOne_148 rfl (lv_at hl 5 rfl) ?_
                refine lv_iload hx hb dX4_runsOne_149 (lv_at hl 0 rfl) ?_
                refine lv_if_eq (tgt := 163) hx hb dX4_runsOne_151 (by decide) (fun c151 => ?_) (fun c151 => ?_)
                · skip
                  exfalso
                  exact absurd c151 (by decide)
                · skip
                  refine lv_aload_n hx hb dX4_runsOne_154 rfl (lv_at hl 5 rfl) ?_
                  refine va_get (D := D) (ci := 4) (v := .int (nI ((nm tex tl ((a + 1) + 1)).2))) (C := RX4) (T := TX4) (N := 8) hx hb hts hI4 hown hK.1 hP 0 rfl rfl 7 (by decide) lk105 (fun _ h9 => h9) rfl dX4_runsOne_155 ?_
                  refine lv_iconst (v := (nI 1)) hx hb dX4_runsOne_158 (by decide) ?_
                  refine lv_iadd hx hb dX4_runsOne_159 ?_
                  refine n_as (x' := nI (((nm tex tl ((a + 1) + 1)).2) + 1)) (nI_add _ _) ?_
                  refine lv_goto (tgt := 164) hx hb dX4_runsOne_160 (by decide) ?_
                  refine va_put (D := D) (ci := 4) (v := .int (nI (((nm tex tl ((a + 1) + 1)).2) + 1))) (ty := .int) (C := RX4) (T := TX4) (N := 8) hx hb hts hI4 tyX4 tyX4_ok nmX4 hown hK.1 hP hD hS 0 rfl rfl 7 (by decide) lk105 (fun _ h9 => h9) rfl (by decide +kernel) rfl rfl (Nat.le_of_ble_eq_true rfl) dX4_runsOne_164 (fun H locs hP hD hS => ?_)
                  have hP : va_P D vwCl (MW h cI ((doA now k (nI 1) (nI ((nm tex tl ((a + 1) + 1)).1))).2) past pasts bef tri tex (nI tl) (nI (((nm tex tl ((a + 1) + 1)).2) + 1))) H := hP
                  have hD : va_D A0 (MW h cI ((doA now k (nI 1) (nI ((nm tex tl ((a + 1) + 1)).1))).2) past pasts bef tri tex (nI tl) (nI (((nm tex tl ((a + 1) + 1)).2) + 1))) := hD
                  refine lv_iload hx hb dX4_runsOne_167 (lv_at hl 0 rfl) ?_
                  have e : ro now tex tl a = (true, (((nm tex tl ((a + 1) + 1)).2) + 1), (doA now k (nI 1) (nI ((nm tex tl ((a + 1) + 1)).1))).2) := by rw [ro_k (bI_ct c18) hk (by omega), roL_1 (Or.inl c38), roF_2 c74 c87 (bI_ct c104), roE_3 c125 c138]
                  have hP : va_P D vwCl (MW h cI (ro now tex tl a).2.2 past pasts bef tri tex (nI tl) (nI (ro now tex tl a).2.1)) H := by rw [e]; exact hP
                  have hD : va_D A0 (MW h cI (ro now tex tl a).2.2 past pasts bef tri tex (nI tl) (nI (ro now tex tl a).2.1)) := by rw [e]; exact hD
                  exact RETN _ _ (nI 1) () _ _ dX4_runsOne_169 (rfl) (by rw [e]; rfl) hP hD hS
            · skip
              refine lv_iconst (v := (nI 0)) hx hb dX4_runsOne_128 (by decide) ?_
              have e : ro now tex tl a = (false, (nm tex tl ((a + 1) + 1)).2, now) := by rw [ro_k (bI_ct c18) hk (by omega), roL_1 (Or.inl c38), roF_2 c74 c87 (bI_ct c104), roE_1 c125]
              have hP : va_P D vwCl (MW h cI (ro now tex tl a).2.2 past pasts bef tri tex (nI tl) (nI (ro now tex tl a).2.1)) H := by rw [e]; exact hP
              have hD : va_D A0 (MW h cI (ro now tex tl a).2.2 past pasts bef tri tex (nI tl) (nI (ro now tex tl a).2.1)) := by rw [e]; exact hD
              exact RETN _ _ (nI 0) () _ _ dX4_runsOne_129 (rfl) (by rw [e]; rfl) hP hD hS
          · skip
            replace c104 : (bI (dgB tex tl ((a + 1) + 1))) = nI 0 := c104
            refine lv_iconst (v := (nI 0)) hx hb dX4_runsOne_107 (by decide) ?_
            have e : ro now tex tl a = (false, ((a + 1) + 1), now) := by rw [ro_k (bI_ct c18) hk (by omega), roL_1 (Or.inl c38), roF_3 c74 c87 (bI_cf c104)]
            have hP : va_P D vwCl (MW h cI (ro now tex tl a).2.2 past pasts bef tri tex (nI tl) (nI (ro now tex tl a).2.1)) H := by rw [e]; exact hP
            have hD : va_D A0 (MW h cI (ro now tex tl a).2.2 past pasts bef tri tex (nI tl) (nI (ro now tex tl a).2.1)) := by rw [e]; exact hD
            exact RETN _ _ (nI 0) () _ _ dX4_runsOne_108 (rfl) (by rw [e]; rfl) hP hD hS
    · skip
      replace c38 : ¬ (k = 97) := by rw [nI_eq (by omega) (by omega)] at c38; exact c38
      refine lv_iload_n hx hb dX4_runsOne_41 rfl (lv_at hl 2 rfl) ?_
      refine lv_bipush (v := (nI 116)) hx hb dX4_runsOne_42 (by decide) ?_
      refine lv_icmp_ne (tgt := 54) hx hb dX4_runsOne_44 (by decide) (fun c44 => ?_) (fun c44 => ?_)
      · skip
        replace c44 : ¬ k = 116 := by rw [nI_eq (by omega) (by omega)] at c44; exact c44
        refine lv_aload_n hx hb dX4_runsOne_54 rfl (lv_at hl 3 rfl) ?_
        refine cl_Vi (b := (h 0)) (As := []) (rest := []) (wc := MW h cI now past pasts bef tri tex (nI tl) (nI (a + 1))) (wsN := fun (_ : Unit) => MW h cI now past pasts bef tri tex (nI tl) (nI (a + 1))) F hK hA hP hD hS (c_X4_isDigit htl (by omega)) (cwV 0 hts gX4_runsOne_X4_isDigit rfl rfl rfl (by decide +kernel) ⟨Nat.le_of_ble_eq_true rfl, Nat.le_of_ble_eq_true rfl⟩) [0, 1, 2, 3, 4, 5] [] [0, 1, 2, 3, 4, 5] ([]) rfl rfl (fun _ => rfl) (by decide) (by decide) 0 rfl rfl rfl hl.1 rfl (Nat.le_of_ble_eq_true rfl) ⟨Nat.zero_le _, Nat.zero_le _⟩ dX4_runsOne_55 (fun r_24 _ H locs hw_23 hP hD hS => ?_)
        try dsimp only at hw_23 hP hD
        obtain rfl : r_24 = (bI (dgB tex tl (a + 1))) := hw_23
        refine lv_if_ne (tgt := 63) hx hb dX4_runsOne_58 (by decide) (fun c58 => ?_) (fun c58 => ?_)
        · skip
          replace c58 : ¬ (bI (dgB tex tl (a + 1))) = nI 0 := c58
          refine lv_aload_n hx hb dX4_runsOne_63 rfl (lv_at hl 3 rfl) ?_
          refine cl_Vi (b := (h 0)) (As := []) (rest := []) (wc := MW h cI now past pasts bef tri tex (nI tl) (nI (a + 1))) (wsN := fun (_ : Unit) => MW h cI now past pasts bef tri tex (nI tl) (nI ((nm tex tl (a + 1)).2))) F hK hA hP hD hS (c_X4_number htl (bI_ct c58)) (cwV 0 hts gX4_runsOne_X4_number rfl rfl rfl (by decide +kernel) ⟨Nat.le_of_ble_eq_true rfl, Nat.le_of_ble_eq_true rfl⟩) [0, 1, 2, 3, 4, 5] [] [0, 1, 2, 3, 4, 5] ([]) rfl rfl (fun _ => rfl) (by decide) (by decide) 0 rfl rfl rfl hl.1 rfl (Nat.le_of_ble_eq_true rfl) ⟨Nat.zero_le _, Nat.zero_le _⟩ dX4_runsOne_64 (fun r_26 _ H locs hw_25 hP hD hS => ?_)
          try dsimp only at hw_25 hP hD
          obtain rfl : r_26 = (nI ((nm tex tl (a + 1)).1)) := hw_25
          have hnmc58 := nm_in (bI_ct c58)
          obtain ⟨hduc58, hdvc58, hdwc58⟩ := dg_of (bI_ct c58)
          refine lv_istore_n (lv' := [(3, .int (nI ((nm tex tl (a + 1)).1))), (2, .int (nI a)), (1, .int (nI k)), (0, .ref (h 0))]) hx hb dX4_runsOne_67 rfl hl (by decide) rfl (fun ls hl => ?_)
          refine lv_iload_n hx hb dX4_runsOne_68 rfl (lv_at hl 0 rfl) ?_
          refine lv_istore (lv' := [(4, .int (nI ((nm tex tl (a + 1)).1))), (3, .int (nI ((nm tex tl (a + 1)).1))), (2, .int (nI a)), (1, .int (nI k)), (0, .ref (h 0))]) hx hb dX4_runsOne_69 hl (by decide) rfl (fun ls hl => ?_)
          refine lv_iload_n hx hb dX4_runsOne_71 rfl (lv_at hl 3 rfl) ?_
          refine lv_bipush (v := (nI 102)) hx hb dX4_runsOne_72 (by decide) ?_
          refine lv_icmp_ne (tgt := 115) hx hb dX4_runsOne_74 (by decide) (fun c74 => ?_) (fun c74 => ?_)
          · skip
            replace c74 : ¬ k = 102 := by rw [nI_eq (by omega) (by omega)] at c74; exact c74
            refine lv_aload_n hx hb dX4_runsOne_115 rfl (lv_at hl 4 rfl) ?_
            refine lv_aload_n hx hb dX4_runsOne_116 rfl (lv_at hl 4 rfl) ?_
            refine va_get (D := D) (ci := 4) (v := .int (nI ((nm tex tl (a + 1)).2))) (C := RX4) (T := TX4) (N := 8) hx hb hts hI4 hown hK.1 hP 0 rfl rfl 7 (by decide) lk105 (fun _ h9 => h9) rfl dX4_runsOne_117 ?_
            refine cl_Vi (b := (h 0)) (As := [.int (nI ((nm tex tl (a + 1)).2))]) (rest := []) (wc := MW h cI now past pasts bef tri tex (nI tl) (nI ((nm tex tl (a + 1)).2))) (wsN := fun (_ : Unit) => MW h cI now past pasts bef tri tex (nI tl) (nI ((nm tex tl (a + 1)).2))) F hK hA hP hD hS (c_X4_signAt htl (by omega)) (cwV 1 hts gX4_runsOne_X4_signAt rfl rfl rfl (by decide +kernel) ⟨Nat.le_of_ble_eq_true rfl, Nat.le_of_ble_eq_true rfl⟩) [0, 1, 2, 3, 4, 5] [] [0, 1, 2, 3, 4, 5] ([]) rfl rfl (fun _ => rfl) (by decide) (by decide) 0 rfl rfl rfl hl.1 rfl (Nat.le_of_ble_eq_true rfl) ⟨Nat.zero_le _, Nat.zero_le _⟩ dX4_runsOne_120 (fun r_28 _ H locs hw_27 hP hD hS => ?_)
            try dsimp only at hw_27 hP hD
            obtain rfl : r_28 = (sg tex tl ((nm tex tl (a + 1)).2)) := hw_27
            refine lv_bipush (v := (nI 59)) hx hb dX4_runsOne_123 (by decide) ?_
            refine lv_icmp_eq (tgt := 130) hx hb dX4_runsOne_125 (by decide) (fun c125 => ?_) (fun c125 => ?_)
            · skip
              refine lv_aload_n hx hb dX4_runsOne_130 rfl (lv_at hl 4 rfl) ?_
              refine lv_iload_n hx hb dX4_runsOne_131 rfl (lv_at hl 3 rfl) ?_
              refine lv_iload_n hx hb dX4_runsOne_132 rfl (lv_at hl 1 rfl) ?_
              refine lv_iload hx hb dX4_runsOne_133 (lv_at hl 0 rfl) ?_
              refine cl_Vi (b := (h 0)) (As := [.int (nI k), .int (nI ((nm tex tl (a + 1)).1)), .int (nI ((nm tex tl (a + 1)).1))]) (rest := []) (wc := MW h cI now past pasts bef tri tex (nI tl) (nI ((nm tex tl (a + 1)).2))) (wsN := fun (u1 : Nat → Int32) => MW h cI u1 past pasts bef tri tex (nI tl) (nI ((nm tex tl (a + 1)).2))) F hK hA hP hD hS (c_X4_does (by omega) hB) (cwV 3 hts gX4_runsOne_X4_does rfl rfl rfl (by decide +kernel) ⟨Nat.le_of_ble_eq_true rfl, Nat.le_of_ble_eq_true rfl⟩) [0, 1, 2, 3, 4, 5] [] [0, 1, 2, 3, 4, 5] ([]) rfl rfl (fun _ => rfl) (by decide) (by decide) 0 rfl rfl rfl hl.1 rfl (Nat.le_of_ble_eq_true rfl) ⟨Nat.zero_le _, Nat.zero_le _⟩ dX4_runsOne_135 (fun r1 u1 H locs hw_29 hP hD hS => ?_)
              try dsimp only at hw_29 hP hD
              obtain ⟨rfl, rfl⟩ := hw_29
              have hP : va_P D vwCl (MW h cI ((doA now k (nI ((nm tex tl (a + 1)).1)) (nI ((nm tex tl (a + 1)).1))).2) past pasts bef tri tex (nI tl) (nI ((nm tex tl (a + 1)).2))) H := hP
              have hD : va_D A0 (MW h cI ((doA now k (nI ((nm tex tl (a + 1)).1)) (nI ((nm tex tl (a + 1)).1))).2) past pasts bef tri tex (nI tl) (nI ((nm tex tl (a + 1)).2))) := hD
              refine lv_if_lt (tgt := 145) hx hb dX4_runsOne_138 (by decide) (fun c138 => ?_) (fun c138 => ?_)
              · skip
                refine lv_iconst (v := (nI 0)) hx hb dX4_runsOne_145 (by decide) ?_
                refine lv_istore (lv' := [(5, .int (nI 0)), (4, .int (nI ((nm tex tl (a + 1)).1))), (3, .int (nI ((nm tex tl (a + 1)).1))), (2, .int (nI a)), (1, .int (nI k)), (0, .ref (h 0))]) hx hb dX4_runsOne_146 hl (by decide) rfl (fun ls hl => ?_)
                refine lv_aload_n hx hb dX4_runsOne_148 rfl (lv_at hl 5 rfl) ?_
                refine lv_iload hx hb dX4_runsOne_149 (lv_at hl 0 rfl) ?_
                refine lv_if_eq (tgt := 163) hx hb dX4_runsOne_151 (by decide) (fun c151 => ?_) (fun c151 => ?_)
                · skip
                  refine lv_iload_n hx hb dX4_runsOne_163 rfl (lv_at hl 3 rfl) ?_
                  refine va_put (D := D) (ci := 4) (v := .int (nI a)) (ty := .int) (C := RX4) (T := TX4) (N := 8) hx hb hts hI4 tyX4 tyX4_ok nmX4 hown hK.1 hP hD hS 0 rfl rfl 7 (by decide) lk105 (fun _ h9 => h9) rfl (by decide +kernel) rfl rfl (Nat.le_of_ble_eq_true rfl) dX4_runsOne_164 (fun H locs hP hD hS => ?_)
                  have hP : va_P D vwCl (MW h cI ((doA now k (nI ((nm tex tl (a + 1)).1)) (nI ((nm tex tl (a + 1)).1))).2) past pasts bef tri tex (nI tl) (nI a)) H := hP
                  have hD : va_D A0 (MW h cI ((doA now k (nI ((nm tex tl (a + 1)).1)) (nI ((nm tex tl (a + 1)).1))).2) past pasts bef tri tex (nI tl) (nI a)) := hD
                  refine lv_iload hx hb dX4_runsOne_167 (lv_at hl 0 rfl) ?_
                  have e : ro now tex tl a = (false, a, (doA now k (nI ((nm tex tl (a + 1)).1)) (nI ((nm tex tl (a + 1)).1))).2) := by rw [ro_k (bI_ct c18) hk (by omega), roL_2 c38 (bI_ct c58), roF_1 (Or.inl c74), roE_2 c125 c138]
                  have hP : va_P D vwCl (MW h cI (ro now tex tl a).2.2 past pasts bef tri tex (nI tl) (nI (ro now tex tl a).2.1)) H := by rw [e]; exact hP
                  have hD : va_D A0 (MW h cI (ro now tex tl a).2.2 past pasts bef tri tex (nI tl) (nI (ro now tex tl a).2.1)) := by rw [e]; exact hD
                  exact RETN _ _ (nI 0) () _ _ dX4_runsOne_169 (rfl) (by rw [e]; rfl) hP hD hS
                · skip
                  exfalso
                  exact absurd c151 (by decide)
              · skip
                refine lv_iconst (v := (nI 1)) hx hb dX4_runsOne_141 (by decide) ?_
                refine lv_goto (tgt := 146) hx hb dX4_runsOne_142 (by decide) ?_
                refine lv_istore (lv' := [(5, .int (nI 1)), (4, .int (nI ((nm tex tl (a + 1)).1))), (3, .int (nI ((nm tex tl (a + 1)).1))), (2, .int (nI a)), (1, .int (nI k)), (0, .ref (h 0))]) hx hb dX4_runsOne_146 hl (by decide) rfl (fun ls hl => ?_)
                refine lv_aload_n hx hb dX4_runsOne_148 rfl (lv_at hl 5 rfl) ?_
                refine lv_iload hx hb dX4_runsOne_149 (lv_at hl 0 rfl) ?_
                refine lv_if_eq (tgt := 163) hx hb dX4_runsOne_151 (by decide) (fun c151 => ?_) (fun c151 => ?_)
                · skip
                  exfalso
                  exact absurd c151 (by decide)
                · skip
                  refine lv_aload_n hx hb dX4_runsOne_154 rfl (lv_at hl 5 rfl) ?_
                  refine va_get (D := D) (ci := 4) (v := .int (nI ((nm tex tl (a + 1)).2))) (C := RX4) (T := TX4) (N := 8) hx hb hts hI4 hown hK.1 hP 0 rfl rfl 7 (by decide) lk105 (fun _ h9 => h9) rfl dX4_runsOne_155 ?_
                  refine lv_iconst (v := (nI 1)) hx hb dX4_runsOne_158 (by decide) ?_
                  refine lv_iadd hx hb dX4_runsOne_159 ?_
                  refine n_as (x' := nI (((nm tex tl (a + 1)).2) + 1)) (nI_add _ _) ?_
                  refine lv_goto (tgt := 164) hx hb dX4_runsOne_160 (by decide) ?_
                  refine va_put (D := D) (ci := 4) (v := .int (nI (((nm tex tl (a + 1)).2) + 1))) (ty := .int) (C := RX4) (T := TX4) (N := 8) hx hb hts hI4 tyX4 tyX4_ok nmX4 hown hK.1 hP hD hS 0 rfl rfl 7 (by decide) lk105 (fun _ h9 => h9) rfl (by decide +kernel) rfl rfl (Nat.le_of_ble_eq_true rfl) dX4_runsOne_164 (fun H locs hP hD hS => ?_)
                  have hP : va_P D vwCl (MW h cI ((doA now k (nI ((nm tex tl (a + 1)).1)) (nI ((nm tex tl (a + 1)).1))).2) past pasts bef tri tex (nI tl) (nI (((nm tex tl (a + 1)).2) + 1))) H := hP
                  have hD : va_D A0 (MW h cI ((doA now k (nI ((nm tex tl (a + 1)).1)) (nI ((nm tex tl (a + 1)).1))).2) past pasts bef tri tex (nI tl) (nI (((nm tex tl (a + 1)).2) + 1))) := hD
                  refine lv_iload hx hb dX4_runsOne_167 (lv_at hl 0 rfl) ?_
                  have e : ro now tex tl a = (true, (((nm tex tl (a + 1)).2) + 1), (doA now k (nI ((nm tex tl (a + 1)).1)) (nI ((nm tex tl (a + 1)).1))).2) := by rw [ro_k (bI_ct c18) hk (by omega), roL_2 c38 (bI_ct c58), roF_1 (Or.inl c74), roE_3 c125 c138]
                  have hP : va_P D vwCl (MW h cI (ro now tex tl a).2.2 past pasts bef tri tex (nI tl) (nI (ro now tex tl a).2.1)) H := by rw [e]; exact hP
                  have hD : va_D A0 (MW h cI (ro now tex tl a).2.2 past pasts bef tri tex (nI tl) (nI (ro now tex tl a).2.1)) := by rw [e]; exact hD
                  exact RETN _ _ (nI 1) () _ _ dX4_runsOne_169 (rfl) (by rw [e]; rfl) hP hD hS
            · skip
              refine lv_iconst (v := (nI 0)) hx hb dX4_runsOne_128 (by decide) ?_
              have e : ro now tex tl a = (false, (nm tex tl (a + 1)).2, now) := by rw [ro_k (bI_ct c18) hk (by omega), roL_2 c38 (bI_ct c58), roF_1 (Or.inl c74), roE_1 c125]
              have hP : va_P D vwCl (MW h cI (ro now tex tl a).2.2 past pasts bef tri tex (nI tl) (nI (ro now tex tl a).2.1)) H := by rw [e]; exact hP
              have hD : va_D A0 (MW h cI (ro now tex tl a).2.2 past pasts bef tri tex (nI tl) (nI (ro now tex tl a).2.1)) := by rw [e]; exact hD
              exact RETN _ _ (nI 0) () _ _ dX4_runsOne_129 (rfl) (by rw [e]; rfl) hP hD hS
          · skip
            replace c74 : k = 102 := by rw [nI_eq (by omega) (by omega)] at c74; exact c74
            refine lv_aload_n hx hb dX4_runsOne_77 rfl (lv_at hl 4 rfl) ?_
            refine lv_aload_n hx hb dX4_runsOne_78 rfl (lv_at hl 4 rfl) ?_
            refine va_get (D := D) (ci := 4) (v := .int (nI ((nm tex tl (a + 1)).2))) (C := RX4) (T := TX4) (N := 8) hx hb hts hI4 hown hK.1 hP 0 rfl rfl 7 (by decide) lk105 (fun _ h9 => h9) rfl dX4_runsOne_79 ?_
            refine cl_Vi (b := (h 0)) (As := [.int (nI ((nm tex tl (a + 1)).2))]) (rest := []) (wc := MW h cI now past pasts bef tri tex (nI tl) (nI ((nm tex tl (a + 1)).2))) (wsN := fun (_ : Unit) => MW h cI now past pasts bef tri tex (nI tl) (nI ((nm tex tl (a + 1)).2))) F hK hA hP hD hS (c_X4_signAt htl (by omega)) (cwV 1 hts gX4_runsOne_X4_signAt rfl rfl rfl (by decide +kernel) ⟨Nat.le_of_ble_eq_true rfl, Nat.le_of_ble_eq_true rfl⟩) [0, 1, 2, 3, 4, 5] [] [0, 1, 2, 3, 4, 5] ([]) rfl rfl (fun _ => rfl) (by decide) (by decide) 0 rfl rfl rfl hl.1 rfl (Nat.le_of_ble_eq_true rfl) ⟨Nat.zero_le _, Nat.zero_le _⟩ dX4_runsOne_82 (fun r_32 _ H locs hw_31 hP hD hS => ?_)
            try dsimp only at hw_31 hP hD
            obtain rfl : r_32 = (sg tex tl ((nm tex tl (a + 1)).2)) := hw_31
            refine lv_bipush (v := (nI 45)) hx hb dX4_runsOne_85 (by decide) ?_
            refine lv_icmp_ne (tgt := 115) hx hb dX4_runsOne_87 (by decide) (fun c87 => ?_) (fun c87 => ?_)
            · skip
              refine lv_aload_n hx hb dX4_runsOne_115 rfl (lv_at hl 4 rfl) ?_
              refine lv_aload_n hx hb dX4_runsOne_116 rfl (lv_at hl 4 rfl) ?_
              refine va_get (D := D) (ci := 4) (v := .int (nI ((nm tex tl (a + 1)).2))) (C := RX4) (T := TX4) (N := 8) hx hb hts hI4 hown hK.1 hP 0 rfl rfl 7 (by decide) lk105 (fun _ h9 => h9) rfl dX4_runsOne_117 ?_
              refine cl_Vi (b := (h 0)) (As := [.int (nI ((nm tex tl (a + 1)).2))]) (rest := []) (wc := MW h cI now past pasts bef tri tex (nI tl) (nI ((nm tex tl (a + 1)).2))) (wsN := fun (_ : Unit) => MW h cI now past pasts bef tri tex (nI tl) (nI ((nm tex tl (a + 1)).2))) F hK hA hP hD hS (c_X4_signAt htl (by omega)) (cwV 1 hts gX4_runsOne_X4_signAt rfl rfl rfl (by decide +kernel) ⟨Nat.le_of_ble_eq_true rfl, Nat.le_of_ble_eq_true rfl⟩) [0, 1, 2, 3, 4, 5] [] [0, 1, 2, 3, 4, 5] ([]) rfl rfl (fun _ => rfl) (by decide) (by decide) 0 rfl rfl rfl hl.1 rfl (Nat.le_of_ble_eq_true rfl) ⟨Nat.zero_le _, Nat.zero_le _⟩ dX4_runsOne_120 (fun r_34 _ H locs hw_33 hP hD hS => ?_)
              try dsimp only at hw_33 hP hD
              obtain rfl : r_34 = (sg tex tl ((nm tex tl (a + 1)).2)) := hw_33
              refine lv_bipush (v := (nI 59)) hx hb dX4_runsOne_123 (by decide) ?_
              refine lv_icmp_eq (tgt := 130) hx hb dX4_runsOne_125 (by decide) (fun c125 => ?_) (fun c125 => ?_)
              · skip
                refine lv_aload_n hx hb dX4_runsOne_130 rfl (lv_at hl 4 rfl) ?_
                refine lv_iload_n hx hb dX4_runsOne_131 rfl (lv_at hl 3 rfl) ?_
                refine lv_iload_n hx hb dX4_runsOne_132 rfl (lv_at hl 1 rfl) ?_
                refine lv_iload hx hb dX4_runsOne_133 (lv_at hl 0 rfl) ?_
                refine cl_Vi (b := (h 0)) (As := [.int (nI k), .int (nI ((nm tex tl (a + 1)).1)), .int (nI ((nm tex tl (a + 1)).1))]) (rest := []) (wc := MW h cI now past pasts bef tri tex (nI tl) (nI ((nm tex tl (a + 1)).2))) (wsN := fun (u1 : Nat → Int32) => MW h cI u1 past pasts bef tri tex (nI tl) (nI ((nm tex tl (a + 1)).2))) F hK hA hP hD hS (c_X4_does (by omega) hB) (cwV 3 hts gX4_runsOne_X4_does rfl rfl rfl (by decide +kernel) ⟨Nat.le_of_ble_eq_true rfl, Nat.le_of_ble_eq_true rfl⟩) [0, 1, 2, 3, 4, 5] [] [0, 1, 2, 3, 4, 5] ([]) rfl rfl (fun _ => rfl) (by decide) (by decide) 0 rfl rfl rfl hl.1 rfl (Nat.le_of_ble_eq_true rfl) ⟨Nat.zero_le _, Nat.zero_le _⟩ dX4_runsOne_135 (fun r1 u1 H locs hw_35 hP hD hS => ?_)
                try dsimp only at hw_35 hP hD
                obtain ⟨rfl, rfl⟩ := hw_35
                have hP : va_P D vwCl (MW h cI ((doA now k (nI ((nm tex tl (a + 1)).1)) (nI ((nm tex tl (a + 1)).1))).2) past pasts bef tri tex (nI tl) (nI ((nm tex tl (a + 1)).2))) H := hP
                have hD : va_D A0 (MW h cI ((doA now k (nI ((nm tex tl (a + 1)).1)) (nI ((nm tex tl (a + 1)).1))).2) past pasts bef tri tex (nI tl) (nI ((nm tex tl (a + 1)).2))) := hD
                refine lv_if_lt (tgt := 145) hx hb dX4_runsOne_138 (by decide) (fun c138 => ?_) (fun c138 => ?_)
                · skip
                  refine lv_iconst (v := (nI 0)) hx hb dX4_runsOne_145 (by decide) ?_
                  refine lv_istore (lv' := [(5, .int (nI 0)), (4, .int (nI ((nm tex tl (a + 1)).1))), (3, .int (nI ((nm tex tl (a + 1)).1))), (2, .int (nI a)), (1, .int (nI k)), (0, .ref (h 0))]) hx hb dX4_runsOne_146 hl (by decide) rfl (fun ls hl => ?_)
                  refine lv_aload_n hx hb dX4_runsOne_148 rfl (lv_at hl 5 rfl) ?_
                  refine lv_iload hx hb dX4_runsOne_149 (lv_at hl 0 rfl) ?_
                  refine lv_if_eq (tgt := 163) hx hb dX4_runsOne_151 (by decide) (fun c151 => ?_) (fun c151 => ?_)
                  · skip
                    refine lv_iload_n hx hb dX4_runsOne_163 rfl (lv_at hl 3 rfl) ?_
                    refine va_put (D := D) (ci := 4) (v := .int (nI a)) (ty := .int) (C := RX4) (T := TX4) (N := 8) hx hb hts hI4 tyX4 tyX4_ok nmX4 hown hK.1 hP hD hS 0 rfl rfl 7 (by decide) lk105 (fun _ h9 => h9) rfl (by decide +kernel) rfl rfl (Nat.le_of_ble_eq_true rfl) dX4_runsOne_164 (fun H locs hP hD hS => ?_)
                    have hP : va_P D vwCl (MW h cI ((doA now k (nI ((nm tex tl (a + 1)).1)) (nI ((nm tex tl (a + 1)).1))).2) past pasts bef tri tex (nI tl) (nI a)) H := hP
                    have hD : va_D A0 (MW h cI ((doA now k (nI ((nm tex tl (a + 1)).1)) (nI ((nm tex tl (a + 1)).1))).2) past pasts bef tri tex (nI tl) (nI a)) := hD
                    refine lv_iload hx hb dX4_runsOne_167 (lv_at hl 0 rfl) ?_
                    have e : ro now tex tl a = (false, a, (doA now k (nI ((nm tex tl (a + 1)).1)) (nI ((nm tex tl (a + 1)).1))).2) := by rw [ro_k (bI_ct c18) hk (by omega), roL_2 c38 (bI_ct c58), roF_1 (Or.inr c87), roE_2 c125 c138]
                    have hP : va_P D vwCl (MW h cI (ro now tex tl a).2.2 past pasts bef tri tex (nI tl) (nI (ro now tex tl a).2.1)) H := by rw [e]; exact hP
                    have hD : va_D A0 (MW h cI (ro now tex tl a).2.2 past pasts bef tri tex (nI tl) (nI (ro now tex tl a).2.1)) := by rw [e]; exact hD
                    exact RETN _ _ (nI 0) () _ _ dX4_runsOne_169 (rfl) (by rw [e]; rfl) hP hD hS
                  · skip
                    exfalso
                    exact absurd c151 (by decide)
                · skip
                  refine lv_iconst (v := (nI 1)) hx hb dX4_runsOne_141 (by decide) ?_
                  refine lv_goto (tgt := 146) hx hb dX4_runsOne_142 (by decide) ?_
                  refine lv_istore (lv' := [(5, .int (nI 1)), (4, .int (nI ((nm tex tl (a + 1)).1))), (3, .int (nI ((nm tex tl (a + 1)).1))), (2, .int (nI a)), (1, .int (nI k)), (0, .ref (h 0))]) hx hb dX4_runsOne_146 hl (by decide) rfl (fun ls hl => ?_)
                  refine lv_aload_n hx hb dX4_runsOne_148 rfl (lv_at hl 5 rfl) ?_
                  refine lv_iload hx hb dX4_runsOne_149 (lv_at hl 0 rfl) ?_
                  refine lv_if_eq (tgt := 163) hx hb dX4_runsOne_151 (by decide) (fun c151 => ?_) (fun c151 => ?_)
                  · skip
                    exfalso
                    exact absurd c151 (by decide)
                  · skip
                    refine lv_aload_n hx hb dX4_runsOne_154 rfl (lv_at hl 5 rfl) ?_
                    refine va_get (D := D) (ci := 4) (v := .int (nI ((nm tex tl (a + 1)).2))) (C := RX4) (T := TX4) (N := 8) hx hb hts hI4 hown hK.1 hP 0 rfl rfl 7 (by decide) lk105 (fun _ h9 => h9) rfl dX4_runsOne_155 ?_
                    refine lv_iconst (v := (nI 1)) hx hb dX4_runsOne_158 (by decide) ?_
                    refine lv_iadd hx hb dX4_runsOne_159 ?_
                    refine n_as (x' := nI (((nm tex tl (a + 1)).2) + 1)) (nI_add _ _) ?_
                    refine lv_goto (tgt := 164) hx hb dX4_runsOne_160 (by decide) ?_
                    refine va_put (D := D) (ci := 4) (v := .int (nI (((nm tex tl (a + 1)).2) + 1))) (ty := .int) (C := RX4) (T := TX4) (N := 8) hx hb hts hI4 tyX4 tyX4_ok nmX4 hown hK.1 hP hD hS 0 rfl rfl 7 (by decide) lk105 (fun _ h9 => h9) rfl (by decide +kernel) rfl rfl (Nat.le_of_ble_eq_true rfl) dX4_runsOne_164 (fun H locs hP hD hS => ?_)
                    have hP : va_P D vwCl (MW h cI ((doA now k (nI ((nm tex tl (a + 1)).1)) (nI ((nm tex tl (a + 1)).1))).2) past pasts bef tri tex (nI tl) (nI (((nm tex tl (a + 1)).2) + 1))) H := hP
                    have hD : va_D A0 (MW h cI ((doA now k (nI ((nm tex tl (a + 1)).1)) (nI ((nm tex tl (a + 1)).1))).2) past pasts bef tri tex (nI tl) (nI (((nm tex tl (a + 1)).2) + 1))) := hD
                    refine lv_iload hx hb dX4_runsOne_167 (lv_at hl 0 rfl) ?_
                    have e : ro now tex tl a = (true, (((nm tex tl (a + 1)).2) + 1), (doA now k (nI ((nm tex tl (a + 1)).1)) (nI ((nm tex tl (a + 1)).1))).2) := by rw [ro_k (bI_ct c18) hk (by omega), roL_2 c38 (bI_ct c58), roF_1 (Or.inr c87), roE_3 c125 c138]
                    have hP : va_P D vwCl (MW h cI (ro now tex tl a).2.2 past pasts bef tri tex (nI tl) (nI (ro now tex tl a).2.1)) H := by rw [e]; exact hP
                    have hD : va_D A0 (MW h cI (ro now tex tl a).2.2 past pasts bef tri tex (nI tl) (nI (ro now tex tl a).2.1)) := by rw [e]; exact hD
                    exact RETN _ _ (nI 1) () _ _ dX4_runsOne_169 (rfl) (by rw [e]; rfl) hP hD hS
              · skip
                refine lv_iconst (v := (nI 0)) hx hb dX4_runsOne_128 (by decide) ?_
                have e : ro now tex tl a = (false, (nm tex tl (a + 1)).2, now) := by rw [ro_k (bI_ct c18) hk (by omega), roL_2 c38 (bI_ct c58), roF_1 (Or.inr c87), roE_1 c125]
                have hP : va_P D vwCl (MW h cI (ro now tex tl a).2.2 past pasts bef tri tex (nI tl) (nI (ro now tex tl a).2.1)) H := by rw [e]; exact hP
                have hD : va_D A0 (MW h cI (ro now tex tl a).2.2 past pasts bef tri tex (nI tl) (nI (ro now tex tl a).2.1)) := by rw [e]; exact hD
                exact RETN _ _ (nI 0) () _ _ dX4_runsOne_129 (rfl) (by rw [e]; rfl) hP hD hS
            · skip
              refine lv_aload_n hx hb dX4_runsOne_90 rfl (lv_at hl 4 rfl) ?_
              refine lv_dup hx hb dX4_runsOne_91 rfl ?_
              refine va_get (D := D) (ci := 4) (v := .int (nI ((nm tex tl (a + 1)).2))) (C := RX4) (T := TX4) (N := 8) hx hb hts hI4 hown hK.1 hP 0 rfl rfl 7 (by decide) lk105 (fun _ h9 => h9) rfl dX4_runsOne_92 ?_
              refine lv_iconst (v := (nI 1)) hx hb dX4_runsOne_95 (by decide) ?_
              refine lv_iadd hx hb dX4_runsOne_96 ?_
              refine n_as (x' := nI (((nm tex tl (a + 1)).2) + 1)) (nI_add _ _) ?_
              refine va_put (D := D) (ci := 4) (v := .int (nI (((nm tex tl (a + 1)).2) + 1))) (ty := .int) (C := RX4) (T := TX4) (N := 8) hx hb hts hI4 tyX4 tyX4_ok nmX4 hown hK.1 hP hD hS 0 rfl rfl 7 (by decide) lk105 (fun _ h9 => h9) rfl (by decide +kernel) rfl rfl (Nat.le_of_ble_eq_true rfl) dX4_runsOne_97 (fun H locs hP hD hS => ?_)
              have hP : va_P D vwCl (MW h cI now past pasts bef tri tex (nI tl) (nI (((nm tex tl (a + 1)).2) + 1))) H := hP
              have hD : va_D A0 (MW h cI now past pasts bef tri tex (nI tl) (nI (((nm tex tl (a + 1)).2) + 1))) := hD
              refine lv_aload_n hx hb dX4_runsOne_100 rfl (lv_at hl 4 rfl) ?_
              refine cl_Vi (b := (h 0)) (As := []) (rest := []) (wc := MW h cI now past pasts bef tri tex (nI tl) (nI (((nm tex tl (a + 1)).2) + 1))) (wsN := fun (_ : Unit) => MW h cI now past pasts bef tri tex (nI tl) (nI (((nm tex tl (a + 1)).2) + 1))) F hK hA hP hD hS (c_X4_isDigit htl (by omega)) (cwV 0 hts gX4_runsOne_X4_isDigit rfl rfl rfl (by decide +kernel) ⟨Nat.le_of_ble_eq_true rfl, Nat.le_of_ble_eq_true rfl⟩) [0, 1, 2, 3, 4, 5] [] [0, 1, 2, 3, 4, 5] ([]) rfl rfl (fun _ => rfl) (by decide) (by decide) 0 rfl rfl rfl hl.1 rfl (Nat.le_of_ble_eq_true rfl) ⟨Nat.zero_le _, Nat.zero_le _⟩ dX4_runsOne_101 (fun r_38 _ H locs hw_37 hP hD hS => ?_)
              try dsimp only at hw_37 hP hD
              obtain rfl : r_38 = (bI (dgB tex tl (((nm tex tl (a + 1)).2) + 1))) := hw_37
              refine lv_if_ne (tgt := 109) hx hb dX4_runsOne_104 (by decide) (fun c104 => ?_) (fun c104 => ?_)
              · skip
                replace c104 : ¬ (bI (dgB tex tl (((nm tex tl (a + 1)).2) + 1))) = nI 0 := c104
                refine lv_aload_n hx hb dX4_runsOne_109 rfl (lv_at hl 4 rfl) ?_
                refine cl_Vi (b := (h 0)) (As := []) (rest := []) (wc := MW h cI now past pasts bef tri tex (nI tl) (nI (((nm tex tl (a + 1)).2) + 1))) (wsN := fun (_ : Unit) => MW h cI now past pasts bef tri tex (nI tl) (nI ((nm tex tl (((nm tex tl (a + 1)).2) + 1)).2))) F hK hA hP hD hS (c_X4_number htl (bI_ct c104)) (cwV 0 hts gX4_runsOne_X4_number rfl rfl rfl (by decide +kernel) ⟨Nat.le_of_ble_eq_true rfl, Nat.le_of_ble_eq_true rfl⟩) [0, 1, 2, 3, 4, 5] [] [0, 1, 2, 3, 4, 5] ([]) rfl rfl (fun _ => rfl) (by decide) (by decide) 0 rfl rfl rfl hl.1 rfl (Nat.le_of_ble_eq_true rfl) ⟨Nat.zero_le _, Nat.zero_le _⟩ dX4_runsOne_110 (fun r_40 _ H locs hw_39 hP hD hS => ?_)
                try dsimp only at hw_39 hP hD
                obtain rfl : r_40 = (nI ((nm tex tl (((nm tex tl (a + 1)).2) + 1)).1)) := hw_39
                have hnmc104 := nm_in (bI_ct c104)
                obtain ⟨hduc104, hdvc104, hdwc104⟩ := dg_of (bI_ct c104)
                refine lv_istore (lv' := [(4, .int (nI ((nm tex tl (((nm tex tl (a + 1)).2) + 1)).1))), (3, .int (nI ((nm tex tl (a + 1)).1))), (2, .int (nI a)), (1, .int (nI k)), (0, .ref (h 0))]) hx hb dX4_runsOne_113 hl (by decide) rfl (fun ls hl => ?_)
                refine lv_aload_n hx hb dX4_runsOne_115 rfl (lv_at hl 4 rfl) ?_
                refine lv_aload_n hx hb dX4_runsOne_116 rfl (lv_at hl 4 rfl) ?_
                refine va_get (D := D) (ci := 4) (v := .int (nI ((nm tex tl (((nm tex tl (a + 1)).2) + 1)).2))) (C := RX4) (T := TX4) (N := 8) hx hb hts hI4 hown hK.1 hP 0 rfl rfl 7 (by decide) lk105 (fun _ h9 => h9) rfl dX4_runsOne_117 ?_
                refine cl_Vi (b := (h 0)) (As := [.int (nI ((nm tex tl (((nm tex tl (a + 1)).2) + 1)).2))]) (rest := []) (wc := MW h cI now past pasts bef tri tex (nI tl) (nI ((nm tex tl (((nm tex tl (a + 1)).2) + 1)).2))) (wsN := fun (_ : Unit) => MW h cI now past pasts bef tri tex (nI tl) (nI ((nm tex tl (((nm tex tl (a + 1)).2) + 1)).2))) F hK hA hP hD hS (c_X4_signAt htl (by omega)) (cwV 1 hts gX4_runsOne_X4_signAt rfl rfl rfl (by decide +kernel) ⟨Nat.le_of_ble_eq_true rfl, Nat.le_of_ble_eq_true rfl⟩) [0, 1, 2, 3, 4, 5] [] [0, 1, 2, 3, 4, 5] ([]) rfl rfl (fun _ => rfl) (by decide) (by decide) 0 rfl rfl rfl hl.1 rfl (Nat.le_of_ble_eq_true rfl) ⟨Nat.zero_le _, Nat.zero_le _⟩ dX4_runsOne_120 (fun r_42 _ H locs hw_41 hP hD hS => ?_)
                try dsimp only at hw_41 hP hD
                obtain rfl : r_42 = (sg tex tl ((nm tex tl (((nm tex tl (a + 1)).2) + 1)).2)) := hw_41
                refine lv_bipush (v := (nI 59)) hx hb dX4_runsOne_123 (by decide) ?_
                refine lv_icmp_eq (tgt := 130) hx hb dX4_runsOne_125 (by decide) (fun c125 => ?_) (fun c125 => ?_)
                · skip
                  refine lv_aload_n hx hb dX4_runsOne_130 rfl (lv_at hl 4 rfl) ?_
                  refine lv_iload_n hx hb dX4_runsOne_131 rfl (lv_at hl 3 rfl) ?_
                  refine lv_iload_n hx hb dX4_runsOne_132 rfl (lv_at hl 1 rfl) ?_
                  refine lv_iload hx hb dX4_runsOne_133 (lv_at hl 0 rfl) ?_
                  refine cl_Vi (b := (h 0)) (As := [.int (nI k), .int (nI ((nm tex tl (a + 1)).1)), .int (nI ((nm tex tl (((nm tex tl (a + 1)).2) + 1)).1))]) (rest := []) (wc := MW h cI now past pasts bef tri tex (nI tl) (nI ((nm tex tl (((nm tex tl (a + 1)).2) + 1)).2))) (wsN := fun (u1 : Nat → Int32) => MW h cI u1 past pasts bef tri tex (nI tl) (nI ((nm tex tl (((nm tex tl (a + 1)).2) + 1)).2))) F hK hA hP hD hS (c_X4_does (by omega) hB) (cwV 3 hts gX4_runsOne_X4_does rfl rfl rfl (by decide +kernel) ⟨Nat.le_of_ble_eq_true rfl, Nat.le_of_ble_eq_true rfl⟩) [0, 1, 2, 3, 4, 5] [] [0, 1, 2, 3, 4, 5] ([]) rfl rfl (fun _ => rfl) (by decide) (by decide) 0 rfl rfl rfl hl.1 rfl (Nat.le_of_ble_eq_true rfl) ⟨Nat.zero_le _, Nat.zero_le _⟩ dX4_runsOne_135 (fun r1 u1 H locs hw_43 hP hD hS => ?_)
                  try dsimp only at hw_43 hP hD
                  obtain ⟨rfl, rfl⟩ := hw_43
                  have hP : va_P D vwCl (MW h cI ((doA now k (nI ((nm tex tl (a + 1)).1)) (nI ((nm tex tl (((nm tex tl (a + 1)).2) + 1)).1))).2) past pasts bef tri tex (nI tl) (nI ((nm tex tl (((nm tex tl (a + 1)).2) + 1)).2))) H := hP
                  have hD : va_D A0 (MW h cI ((doA now k (nI ((nm tex tl (a + 1)).1)) (nI ((nm tex tl (((nm tex tl (a + 1)).2) + 1)).1))).2) past pasts bef tri tex (nI tl) (nI ((nm tex tl (((nm tex tl (a + 1)).2) + 1)).2))) := hD
                  refine lv_if_lt (tgt := 145) hx hb dX4_runsOne_138 (by decide) (fun c138 => ?_) (fun c138 => ?_)
                  · skip
                    refine lv_iconst (v := (nI 0)) hx hb dX4_runsOne_145 (by decide) ?_
                    refine lv_istore (lv' := [(5, .int (nI 0)), (4, .int (nI ((nm tex tl (((nm tex tl (a + 1)).2) + 1)).1))), (3, .int (nI ((nm tex tl (a + 1)).1))), (2, .int (nI a)), (1, .int (nI k)), (0, .ref (h 0))]) hx hb dX4_runsOne_146 hl (by decide) rfl (fun ls hl => ?_)
                    refine lv_aload_n hx hb dX4_runsOne_148 rfl (lv_at hl 5 rfl) ?_
                    refine lv_iload hx hb dX4_runsOne_149 (lv_at hl 0 rfl) ?_
                    refine lv_if_eq (tgt := 163) hx hb dX4_runsOne_151 (by decide) (fun c151 => ?_) (fun c151 => ?_)
                    · skip
                      refine lv_iload_n hx hb dX4_runsOne_163 rfl (lv_at hl 3 rfl) ?_
                      refine va_put (D := D) (ci := 4) (v := .int (nI a)) (ty := .int) (C := RX4) (T := TX4) (N := 8) hx hb hts hI4 tyX4 tyX4_ok nmX4 hown hK.1 hP hD hS 0 rfl rfl 7 (by decide) lk105 (fun _ h9 => h9) rfl (by decide +kernel) rfl rfl (Nat.le_of_ble_eq_true rfl) dX4_runsOne_164 (fun H locs hP hD hS => ?_)
                      have hP : va_P D vwCl (MW h cI ((doA now k (nI ((nm tex tl (a + 1)).1)) (nI ((nm tex tl (((nm tex tl (a + 1)).2) + 1)).1))).2) past pasts bef tri tex (nI tl) (nI a)) H := hP
                      have hD : va_D A0 (MW h cI ((doA now k (nI ((nm tex tl (a + 1)).1)) (nI ((nm tex tl (((nm tex tl (a + 1)).2) + 1)).1))).2) past pasts bef tri tex (nI tl) (nI a)) := hD
                      refine lv_iload hx hb dX4_runsOne_167 (lv_at hl 0 rfl) ?_
                      have e : ro now tex tl a = (false, a, (doA now k (nI ((nm tex tl (a + 1)).1)) (nI ((nm tex tl (((nm tex tl (a + 1)).2) + 1)).1))).2) := by rw [ro_k (bI_ct c18) hk (by omega), roL_2 c38 (bI_ct c58), roF_2 c74 c87 (bI_ct c104), roE_2 c125 c138]
                      have hP : va_P D vwCl (MW h cI (ro now tex tl a).2.2 past pasts bef tri tex (nI tl) (nI (ro now tex tl a).2.1)) H := by rw [e]; exact hP
                      have hD : va_D A0 (MW h cI (ro now tex tl a).2.2 past pasts bef tri tex (nI tl) (nI (ro now tex tl a).2.1)) := by rw [e]; exact hD
                      exact RETN _ _ (nI 0) () _ _ dX4_runsOne_169 (rfl) (by rw [e]; rfl) hP hD hS
                    · skip
                      exfalso
                      exact absurd c151 (by decide)
                  · skip
                    refine lv_iconst (v := (nI 1)) hx hb dX4_runsOne_141 (by decide) ?_
                    refine lv_goto (tgt := 146) hx hb dX4_runsOne_142 (by decide) ?_
                    refine lv_istore (lv' := [(5, .int (nI 1)), (4, .int (nI ((nm tex tl (((nm tex tl (a + 1)).2) + 1)).1))), (3, .int (nI ((nm tex tl (a + 1)).1))), (2, .int (nI a)), (1, .int (nI k)), (0, .ref (h 0))]) hx hb dX4_runsOne_146 hl (by decide) rfl (fun ls hl => ?_)
                    refine lv_aload_n hx hb dX4_runsOne_148 rfl (lv_at hl 5 rfl) ?_
                    refine lv_iload hx hb dX4_runsOne_149 (lv_at hl 0 rfl) ?_
                    refine lv_if_eq (tgt := 163) hx hb dX4_runsOne_151 (by decide) (fun c151 => ?_) (fun c151 => ?_)
                    · skip
                      exfalso
                      exact absurd c151 (by decide)
                    · skip
                      refine lv_aload_n hx hb dX4_runsOne_154 rfl (lv_at hl 5 rfl) ?_
                      refine va_get (D := D) (ci := 4) (v := .int (nI ((nm tex tl (((nm tex tl (a + 1)).2) + 1)).2))) (C := RX4) (T := TX4) (N := 8) hx hb hts hI4 hown hK.1 hP 0 rfl rfl 7 (by decide) lk105 (fun _ h9 => h9) rfl dX4_runsOne_155 ?_
                      refine lv_iconst (v := (nI 1)) hx hb dX4_runsOne_158 (by decide) ?_
                      refine lv_iadd hx hb dX4_runsOne_159 ?_
                      refine n_as (x' := nI (((nm tex tl (((nm tex tl (a + 1)).2) + 1)).2) + 1)) (nI_add _ _) ?_
                      refine lv_goto (tgt := 164) hx hb dX4_runsOne_160 (by decide) ?_
                      refine va_put (D := D) (ci := 4) (v := .int (nI (((nm tex tl (((nm tex tl (a + 1)).2) + 1)).2) + 1))) (ty := .int) (C := RX4) (T := TX4) (N := 8) hx hb hts hI4 tyX4 tyX4_ok nmX4 hown hK.1 hP hD hS 0 rfl rfl 7 (by decide) lk105 (fun _ h9 => h9) rfl (by decide +kernel) rfl rfl (Nat.le_of_ble_eq_true rfl) dX4_runsOne_164 (fun H locs hP hD hS => ?_)
                      have hP : va_P D vwCl (MW h cI ((doA now k (nI ((nm tex tl (a + 1)).1)) (nI ((nm tex tl (((nm tex tl (a + 1)).2) + 1)).1))).2) past pasts bef tri tex (nI tl) (nI (((nm tex tl (((nm tex tl (a + 1)).2) + 1)).2) + 1))) H := hP
                      have hD : va_D A0 (MW h cI ((doA now k (nI ((nm tex tl (a + 1)).1)) (nI ((nm tex tl (((nm tex tl (a + 1)).2) + 1)).1))).2) past pasts bef tri tex (nI tl) (nI (((nm tex tl (((nm tex tl (a + 1)).2) + 1)).2) + 1))) := hD
                      refine lv_iload hx hb dX4_runsOne_167 (lv_at hl 0 rfl) ?_
                      have e : ro now tex tl a = (true, (((nm tex tl (((nm tex tl (a + 1)).2) + 1)).2) + 1), (doA now k (nI ((nm tex tl (a + 1)).1)) (nI ((nm tex tl (((nm tex tl (a + 1)).2) + 1)).1))).2) := by rw [ro_k (bI_ct c18) hk (by omega), roL_2 c38 (bI_ct c58), roF_2 c74 c87 (bI_ct c104), roE_3 c125 c138]
                      have hP : va_P D vwCl (MW h cI (ro now tex tl a).2.2 past pasts bef tri tex (nI tl) (nI (ro now tex tl a).2.1)) H := by rw [e]; exact hP
                      have hD : va_D A0 (MW h cI (ro now tex tl a).2.2 past pasts bef tri tex (nI tl) (nI (ro now tex tl a).2.1)) := by rw [e]; exact hD
                      exact RETN _ _ (nI 1) () _ _ dX4_runsOne_169 (rfl) (by rw [e]; rfl) hP hD hS
                · skip
                  refine lv_iconst (v := (nI 0)) hx hb dX4_runsOne_128 (by decide) ?_
                  have e : ro now tex tl a = (false, (nm tex tl (((nm tex tl (a + 1)).2) + 1)).2, now) := by rw [ro_k (bI_ct c18) hk (by omega), roL_2 c38 (bI_ct c58), roF_2 c74 c87 (bI_ct c104), roE_1 c125]
                  have hP : va_P D vwCl (MW h cI (ro now tex tl a).2.2 past pasts bef tri tex (nI tl) (nI (ro now tex tl a).2.1)) H := by rw [e]; exact hP
                  have hD : va_D A0 (MW h cI (ro now tex tl a).2.2 past pasts bef tri tex (nI tl) (nI (ro now tex tl a).2.1)) := by rw [e]; exact hD
                  exact RETN _ _ (nI 0) () _ _ dX4_runsOne_129 (rfl) (by rw [e]; rfl) hP hD hS
              · skip
                replace c104 : (bI (dgB tex tl (((nm tex tl (a + 1)).2) + 1))) = nI 0 := c104
                refine lv_iconst (v := (nI 0)) hx hb dX4_runsOne_107 (by decide) ?_
                have e : ro now tex tl a = (false, (((nm tex tl (a + 1)).2) + 1), now) := by rw [ro_k (bI_ct c18) hk (by omega), roL_2 c38 (bI_ct c58), roF_3 c74 c87 (bI_cf c104)]
                have hP : va_P D vwCl (MW h cI (ro now tex tl a).2.2 past pasts bef tri tex (nI tl) (nI (ro now tex tl a).2.1)) H := by rw [e]; exact hP
                have hD : va_D A0 (MW h cI (ro now tex tl a).2.2 past pasts bef tri tex (nI tl) (nI (ro now tex tl a).2.1)) := by rw [e]; exact hD
                exact RETN _ _ (nI 0) () _ _ dX4_runsOne_108 (rfl) (by rw [e]; rfl) hP hD hS
        · skip
          replace c58 : (bI (dgB tex tl (a + 1))) = nI 0 := c58
          refine lv_iconst (v := (nI 0)) hx hb dX4_runsOne_61 (by decide) ?_
          have e : ro now tex tl a = (false, (a + 1), now) := by rw [ro_k (bI_ct c18) hk (by omega), roL_3 c38 c44 (bI_cf c58)]
          have hP : va_P D vwCl (MW h cI (ro now tex tl a).2.2 past pasts bef tri tex (nI tl) (nI (ro now tex tl a).2.1)) H := by rw [e]; exact hP
          have hD : va_D A0 (MW h cI (ro now tex tl a).2.2 past pasts bef tri tex (nI tl) (nI (ro now tex tl a).2.1)) := by rw [e]; exact hD
          exact RETN _ _ (nI 0) () _ _ dX4_runsOne_62 (rfl) (by rw [e]; rfl) hP hD hS
      · skip
        replace c44 : k = 116 := by rw [nI_eq (by omega) (by omega)] at c44; exact c44
        refine lv_aload_n hx hb dX4_runsOne_47 rfl (lv_at hl 3 rfl) ?_
        refine cl_Vi (b := (h 0)) (As := []) (rest := []) (wc := MW h cI now past pasts bef tri tex (nI tl) (nI (a + 1))) (wsN := fun (_ : Unit) => MW h cI now past pasts bef tri tex (nI tl) (nI (a + 1))) F hK hA hP hD hS (c_X4_isDigit htl (by omega)) (cwV 0 hts gX4_runsOne_X4_isDigit rfl rfl rfl (by decide +kernel) ⟨Nat.le_of_ble_eq_true rfl, Nat.le_of_ble_eq_true rfl⟩) [0, 1, 2, 3, 4, 5] [] [0, 1, 2, 3, 4, 5] ([]) rfl rfl (fun _ => rfl) (by decide) (by decide) 0 rfl rfl rfl hl.1 rfl (Nat.le_of_ble_eq_true rfl) ⟨Nat.zero_le _, Nat.zero_le _⟩ dX4_runsOne_48 (fun r_46 _ H locs hw_45 hP hD hS => ?_)
        try dsimp only at hw_45 hP hD
        obtain rfl : r_46 = (bI (dgB tex tl (a + 1))) := hw_45
        refine lv_if_eq (tgt := 68) hx hb dX4_runsOne_51 (by decide) (fun c51 => ?_) (fun c51 => ?_)
        · skip
          replace c51 : (bI (dgB tex tl (a + 1))) = nI 0 := c51
          refine lv_iload_n hx hb dX4_runsOne_68 rfl (lv_at hl 0 rfl) ?_
          refine lv_istore (lv' := [(4, .int (nI 1)), (3, .int (nI 1)), (2, .int (nI a)), (1, .int (nI k)), (0, .ref (h 0))]) hx hb dX4_runsOne_69 hl (by decide) rfl (fun ls hl => ?_)
          refine lv_iload_n hx hb dX4_runsOne_71 rfl (lv_at hl 3 rfl) ?_
          refine lv_bipush (v := (nI 102)) hx hb dX4_runsOne_72 (by decide) ?_
          refine lv_icmp_ne (tgt := 115) hx hb dX4_runsOne_74 (by decide) (fun c74 => ?_) (fun c74 => ?_)
          · skip
            replace c74 : ¬ k = 102 := by rw [nI_eq (by omega) (by omega)] at c74; exact c74
            refine lv_aload_n hx hb dX4_runsOne_115 rfl (lv_at hl 4 rfl) ?_
            refine lv_aload_n hx hb dX4_runsOne_116 rfl (lv_at hl 4 rfl) ?_
            refine va_get (D := D) (ci := 4) (v := .int (nI (a + 1))) (C := RX4) (T := TX4) (N := 8) hx hb hts hI4 hown hK.1 hP 0 rfl rfl 7 (by decide) lk105 (fun _ h9 => h9) rfl dX4_runsOne_117 ?_
            refine cl_Vi (b := (h 0)) (As := [.int (nI (a + 1))]) (rest := []) (wc := MW h cI now past pasts bef tri tex (nI tl) (nI (a + 1))) (wsN := fun (_ : Unit) => MW h cI now past pasts bef tri tex (nI tl) (nI (a + 1))) F hK hA hP hD hS (c_X4_signAt htl (by omega)) (cwV 1 hts gX4_runsOne_X4_signAt rfl rfl rfl (by decide +kernel) ⟨Nat.le_of_ble_eq_true rfl, Nat.le_of_ble_eq_true rfl⟩) [0, 1, 2, 3, 4, 5] [] [0, 1, 2, 3, 4, 5] ([]) rfl rfl (fun _ => rfl) (by decide) (by decide) 0 rfl rfl rfl hl.1 rfl (Nat.le_of_ble_eq_true rfl) ⟨Nat.zero_le _, Nat.zero_le _⟩ dX4_runsOne_120 (fun r_48 _ H locs hw_47 hP hD hS => ?_)
            try dsimp only at hw_47 hP hD
            obtain rfl : r_48 = (sg tex tl (a + 1)) := hw_47
            refine lv_bipush (v := (nI 59)) hx hb dX4_runsOne_123 (by decide) ?_
            refine lv_icmp_eq (tgt := 130) hx hb dX4_runsOne_125 (by decide) (fun c125 => ?_) (fun c125 => ?_)
            · skip
              refine lv_aload_n hx hb dX4_runsOne_130 rfl (lv_at hl 4 rfl) ?_
              refine lv_iload_n hx hb dX4_runsOne_131 rfl (lv_at hl 3 rfl) ?_
              refine lv_iload_n hx hb dX4_runsOne_132 rfl (lv_at hl 1 rfl) ?_
              refine lv_iload hx hb dX4_runsOne_133 (lv_at hl 0 rfl) ?_
              refine cl_Vi (b := (h 0)) (As := [.int (nI k), .int (nI 1), .int (nI 1)]) (rest := []) (wc := MW h cI now past pasts bef tri tex (nI tl) (nI (a + 1))) (wsN := fun (u1 : Nat → Int32) => MW h cI u1 past pasts bef tri tex (nI tl) (nI (a + 1))) F hK hA hP hD hS (c_X4_does (by omega) hB) (cwV 3 hts gX4_runsOne_X4_does rfl rfl rfl (by decide +kernel) ⟨Nat.le_of_ble_eq_true rfl, Nat.le_of_ble_eq_true rfl⟩) [0, 1, 2, 3, 4, 5] [] [0, 1, 2, 3, 4, 5] ([]) rfl rfl (fun _ => rfl) (by decide) (by decide) 0 rfl rfl rfl hl.1 rfl (Nat.le_of_ble_eq_true rfl) ⟨Nat.zero_le _, Nat.zero_le _⟩ dX4_runsOne_135 (fun r1 u1 H locs hw_49 hP hD hS => ?_)
              try dsimp only at hw_49 hP hD
              obtain ⟨rfl, rfl⟩ := hw_49
              have hP : va_P D vwCl (MW h cI ((doA now k (nI 1) (nI 1)).2) past pasts bef tri tex (nI tl) (nI (a + 1))) H := hP
              have hD : va_D A0 (MW h cI ((doA now k (nI 1) (nI 1)).2) past pasts bef tri tex (nI tl) (nI (a + 1))) := hD
              refine lv_if_lt (tgt := 145) hx hb dX4_runsOne_138 (by decide) (fun c138 => ?_) (fun c138 => ?_)
              · skip
                refine lv_iconst (v := (nI 0)) hx hb dX4_runsOne_145 (by decide) ?_
                refine lv_istore (lv' := [(5, .int (nI 0)), (4, .int (nI 1)), (3, .int (nI 1)), (2, .int (nI a)), (1, .int (nI k)), (0, .ref (h 0))]) hx hb dX4_runsOne_146 hl (by decide) rfl (fun ls hl => ?_)
                refine lv_aload_n hx hb dX4_runsOne_148 rfl (lv_at hl 5 rfl) ?_
                refine lv_iload hx hb dX4_runsOne_149 (lv_at hl 0 rfl) ?_
                refine lv_if_eq (tgt := 163) hx hb dX4_runsOne_151 (by decide) (fun c151 => ?_) (fun c151 => ?_)
                · skip
                  refine lv_iload_n hx hb dX4_runsOne_163 rfl (lv_at hl 3 rfl) ?_
                  refine va_put (D := D) (ci := 4) (v := .int (nI a)) (ty := .int) (C := RX4) (T := TX4) (N := 8) hx hb hts hI4 tyX4 tyX4_ok nmX4 hown hK.1 hP hD hS 0 rfl rfl 7 (by decide) lk105 (fun _ h9 => h9) rfl (by decide +kernel) rfl rfl (Nat.le_of_ble_eq_true rfl) dX4_runsOne_164 (fun H locs hP hD hS => ?_)
                  have hP : va_P D vwCl (MW h cI ((doA now k (nI 1) (nI 1)).2) past pasts bef tri tex (nI tl) (nI a)) H := hP
                  have hD : va_D A0 (MW h cI ((doA now k (nI 1) (nI 1)).2) past pasts bef tri tex (nI tl) (nI a)) := hD
                  refine lv_iload hx hb dX4_runsOne_167 (lv_at hl 0 rfl) ?_
                  have e : ro now tex tl a = (false, a, (doA now k (nI 1) (nI 1)).2) := by rw [ro_k (bI_ct c18) hk (by omega), roL_1 (Or.inr ⟨c44, bI_cf c51⟩), roF_1 (Or.inl c74), roE_2 c125 c138]
                  have hP : va_P D vwCl (MW h cI (ro now tex tl a).2.2 past pasts bef tri tex (nI tl) (nI (ro now tex tl a).2.1)) H := by rw [e]; exact hP
                  have hD : va_D A0 (MW h cI (ro now tex tl a).2.2 past pasts bef tri tex (nI tl) (nI (ro now tex tl a).2.1)) := by rw [e]; exact hD
                  exact RETN _ _ (nI 0) () _ _ dX4_runsOne_169 (rfl) (by rw [e]; rfl) hP hD hS
                · skip
                  exfalso
                  exact absurd c151 (by decide)
              · skip
                refine lv_iconst (v := (nI 1)) hx hb dX4_runsOne_141 (by decide) ?_
                refine lv_goto (tgt := 146) hx hb dX4_runsOne_142 (by decide) ?_
                refine lv_istore (lv' := [(5, .int (nI 1)), (4, .int (nI 1)), (3, .int (nI 1)), (2, .int (nI a)), (1, .int (nI k)), (0, .ref (h 0))]) hx hb dX4_runsOne_146 hl (by decide) rfl (fun ls hl => ?_)
                refine lv_aload_n hx hb dX4_runsOne_148 rfl (lv_at hl 5 rfl) ?_
                refine lv_iload hx hb dX4_runsOne_149 (lv_at hl 0 rfl) ?_
                refine lv_if_eq (tgt := 163) hx hb dX4_runsOne_151 (by decide) (fun c151 => ?_) (fun c151 => ?_)
                · skip
                  exfalso
                  exact absurd c151 (by decide)
                · skip
                  refine lv_aload_n hx hb dX4_runsOne_154 rfl (lv_at hl 5 rfl) ?_
                  refine va_get (D := D) (ci := 4) (v := .int (nI (a + 1))) (C := RX4) (T := TX4) (N := 8) hx hb hts hI4 hown hK.1 hP 0 rfl rfl 7 (by decide) lk105 (fun _ h9 => h9) rfl dX4_runsOne_155 ?_
                  refine lv_iconst (v := (nI 1)) hx hb dX4_runsOne_158 (by decide) ?_
                  refine lv_iadd hx hb dX4_runsOne_159 ?_
                  refine n_as (x' := nI ((a + 1) + 1)) (nI_add _ _) ?_
                  refine lv_goto (tgt := 164) hx hb dX4_runsOne_160 (by decide) ?_
                  refine va_put (D := D) (ci := 4) (v := .int (nI ((a + 1) + 1))) (ty := .int) (C := RX4) (T := TX4) (N := 8) hx hb hts hI4 tyX4 tyX4_ok nmX4 hown hK.1 hP hD hS 0 rfl rfl 7 (by decide) lk105 (fun _ h9 => h9) rfl (by decide +kernel) rfl rfl (Nat.le_of_ble_eq_true rfl) dX4_runsOne_164 (fun H locs hP hD hS => ?_)
                  have hP : va_P D vwCl (MW h cI ((doA now k (nI 1) (nI 1)).2) past pasts bef tri tex (nI tl) (nI ((a + 1) + 1))) H := hP
                  have hD : va_D A0 (MW h cI ((doA now k (nI 1) (nI 1)).2) past pasts bef tri tex (nI tl) (nI ((a + 1) + 1))) := hD
                  refine lv_iload hx hb dX4_runsOne_167 (lv_at hl 0 rfl) ?_
                  have e : ro now tex tl a = (true, ((a + 1) + 1), (doA now k (nI 1) (nI 1)).2) := by rw [ro_k (bI_ct c18) hk (by omega), roL_1 (Or.inr ⟨c44, bI_cf c51⟩), roF_1 (Or.inl c74), roE_3 c125 c138]
                  have hP : va_P D vwCl (MW h cI (ro now tex tl a).2.2 past pasts bef tri tex (nI tl) (nI (ro now tex tl a).2.1)) H := by rw [e]; exact hP
                  have hD : va_D A0 (MW h cI (ro now tex tl a).2.2 past pasts bef tri tex (nI tl) (nI (ro now tex tl a).2.1)) := by rw [e]; exact hD
                  exact RETN _ _ (nI 1) () _ _ dX4_runsOne_169 (rfl) (by rw [e]; rfl) hP hD hS
            · skip
              refine lv_iconst (v := (nI 0)) hx hb dX4_runsOne_128 (by decide) ?_
              have e : ro now tex tl a = (false, (a + 1), now) := by rw [ro_k (bI_ct c18) hk (by omega), roL_1 (Or.inr ⟨c44, bI_cf c51⟩), roF_1 (Or.inl c74), roE_1 c125]
              have hP : va_P D vwCl (MW h cI (ro now tex tl a).2.2 past pasts bef tri tex (nI tl) (nI (ro now tex tl a).2.1)) H := by rw [e]; exact hP
              have hD : va_D A0 (MW h cI (ro now tex tl a).2.2 past pasts bef tri tex (nI tl) (nI (ro now tex tl a).2.1)) := by rw [e]; exact hD
              exact RETN _ _ (nI 0) () _ _ dX4_runsOne_129 (rfl) (by rw [e]; rfl) hP hD hS
          · skip
            replace c74 : k = 102 := by rw [nI_eq (by omega) (by omega)] at c74; exact c74
            refine lv_aload_n hx hb dX4_runsOne_77 rfl (lv_at hl 4 rfl) ?_
            refine lv_aload_n hx hb dX4_runsOne_78 rfl (lv_at hl 4 rfl) ?_
            refine va_get (D := D) (ci := 4) (v := .int (nI (a + 1))) (C := RX4) (T := TX4) (N := 8) hx hb hts hI4 hown hK.1 hP 0 rfl rfl 7 (by decide) lk105 (fun _ h9 => h9) rfl dX4_runsOne_79 ?_
            refine cl_Vi (b := (h 0)) (As := [.int (nI (a + 1))]) (rest := []) (wc := MW h cI now past pasts bef tri tex (nI tl) (nI (a + 1))) (wsN := fun (_ : Unit) => MW h cI now past pasts bef tri tex (nI tl) (nI (a + 1))) F hK hA hP hD hS (c_X4_signAt htl (by omega)) (cwV 1 hts gX4_runsOne_X4_signAt rfl rfl rfl (by decide +kernel) ⟨Nat.le_of_ble_eq_true rfl, Nat.le_of_ble_eq_true rfl⟩) [0, 1, 2, 3, 4, 5] [] [0, 1, 2, 3, 4, 5] ([]) rfl rfl (fun _ => rfl) (by decide) (by decide) 0 rfl rfl rfl hl.1 rfl (Nat.le_of_ble_eq_true rfl) ⟨Nat.zero_le _, Nat.zero_le _⟩ dX4_runsOne_82 (fun r_52 _ H locs hw_51 hP hD hS => ?_)
            try dsimp only at hw_51 hP hD
            obtain rfl : r_52 = (sg tex tl (a + 1)) := hw_51
            refine lv_bipush (v := (nI 45)) hx hb dX4_runsOne_85 (by decide) ?_
            refine lv_icmp_ne (tgt := 115) hx hb dX4_runsOne_87 (by decide) (fun c87 => ?_) (fun c87 => ?_)
            · skip
              refine lv_aload_n hx hb dX4_runsOne_115 rfl (lv_at hl 4 rfl) ?_
              refine lv_aload_n hx hb dX4_runsOne_116 rfl (lv_at hl 4 rfl) ?_
              refine va_get (D := D) (ci := 4) (v := .int (nI (a + 1))) (C := RX4) (T := TX4) (N := 8) hx hb hts hI4 hown hK.1 hP 0 rfl rfl 7 (by decide) lk105 (fun _ h9 => h9) rfl dX4_runsOne_117 ?_
              refine cl_Vi (b := (h 0)) (As := [.int (nI (a + 1))]) (rest := []) (wc := MW h cI now past pasts bef tri tex (nI tl) (nI (a + 1))) (wsN := fun (_ : Unit) => MW h cI now past pasts bef tri tex (nI tl) (nI (a + 1))) F hK hA hP hD hS (c_X4_signAt htl (by omega)) (cwV 1 hts gX4_runsOne_X4_signAt rfl rfl rfl (by decide +kernel) ⟨Nat.le_of_ble_eq_true rfl, Nat.le_of_ble_eq_true rfl⟩) [0, 1, 2, 3, 4, 5] [] [0, 1, 2, 3, 4, 5] ([]) rfl rfl (fun _ => rfl) (by decide) (by decide) 0 rfl rfl rfl hl.1 rfl (Nat.le_of_ble_eq_true rfl) ⟨Nat.zero_le _, Nat.zero_le _⟩ dX4_runsOne_120 (fun r_54 _ H locs hw_53 hP hD hS => ?_)
              try dsimp only at hw_53 hP hD
              obtain rfl : r_54 = (sg tex tl (a + 1)) := hw_53
              refine lv_bipush (v := (nI 59)) hx hb dX4_runsOne_123 (by decide) ?_
              refine lv_icmp_eq (tgt := 130) hx hb dX4_runsOne_125 (by decide) (fun c125 => ?_) (fun c125 => ?_)
              · skip
                refine lv_aload_n hx hb dX4_runsOne_130 rfl (lv_at hl 4 rfl) ?_
                refine lv_iload_n hx hb dX4_runsOne_131 rfl (lv_at hl 3 rfl) ?_
                refine lv_iload_n hx hb dX4_runsOne_132 rfl (lv_at hl 1 rfl) ?_
                refine lv_iload hx hb dX4_runsOne_133 (lv_at hl 0 rfl) ?_
                refine cl_Vi (b := (h 0)) (As := [.int (nI k), .int (nI 1), .int (nI 1)]) (rest := []) (wc := MW h cI now past pasts bef tri tex (nI tl) (nI (a + 1))) (wsN := fun (u1 : Nat → Int32) => MW h cI u1 past pasts bef tri tex (nI tl) (nI (a + 1))) F hK hA hP hD hS (c_X4_does (by omega) hB) (cwV 3 hts gX4_runsOne_X4_does rfl rfl rfl (by decide +kernel) ⟨Nat.le_of_ble_eq_true rfl, Nat.le_of_ble_eq_true rfl⟩) [0, 1, 2, 3, 4, 5] [] [0, 1, 2, 3, 4, 5] ([]) rfl rfl (fun _ => rfl) (by decide) (by decide) 0 rfl rfl rfl hl.1 rfl (Nat.le_of_ble_eq_true rfl) ⟨Nat.zero_le _, Nat.zero_le _⟩ dX4_runsOne_135 (fun r1 u1 H locs hw_55 hP hD hS => ?_)
                try dsimp only at hw_55 hP hD
                obtain ⟨rfl, rfl⟩ := hw_55
                have hP : va_P D vwCl (MW h cI ((doA now k (nI 1) (nI 1)).2) past pasts bef tri tex (nI tl) (nI (a + 1))) H := hP
                have hD : va_D A0 (MW h cI ((doA now k (nI 1) (nI 1)).2) past pasts bef tri tex (nI tl) (nI (a + 1))) := hD
                refine lv_if_lt (tgt := 145) hx hb dX4_runsOne_138 (by decide) (fun c138 => ?_) (fun c138 => ?_)
                · skip
                  refine lv_iconst (v := (nI 0)) hx hb dX4_runsOne_145 (by decide) ?_
                  refine lv_istore (lv' := [(5, .int (nI 0)), (4, .int (nI 1)), (3, .int (nI 1)), (2, .int (nI a)), (1, .int (nI k)), (0, .ref (h 0))]) hx hb dX4_runsOne_146 hl (by decide) rfl (fun ls hl => ?_)
                  refine lv_aload_n hx hb dX4_runsOne_148 rfl (lv_at hl 5 rfl) ?_
                  refine lv_iload hx hb dX4_runsOne_149 (lv_at hl 0 rfl) ?_
                  refine lv_if_eq (tgt := 163) hx hb dX4_runsOne_151 (by decide) (fun c151 => ?_) (fun c151 => ?_)
                  · skip
                    refine lv_iload_n hx hb dX4_runsOne_163 rfl (lv_at hl 3 rfl) ?_
                    refine va_put (D := D) (ci := 4) (v := .int (nI a)) (ty := .int) (C := RX4) (T := TX4) (N := 8) hx hb hts hI4 tyX4 tyX4_ok nmX4 hown hK.1 hP hD hS 0 rfl rfl 7 (by decide) lk105 (fun _ h9 => h9) rfl (by decide +kernel) rfl rfl (Nat.le_of_ble_eq_true rfl) dX4_runsOne_164 (fun H locs hP hD hS => ?_)
                    have hP : va_P D vwCl (MW h cI ((doA now k (nI 1) (nI 1)).2) past pasts bef tri tex (nI tl) (nI a)) H := hP
                    have hD : va_D A0 (MW h cI ((doA now k (nI 1) (nI 1)).2) past pasts bef tri tex (nI tl) (nI a)) := hD
                    refine lv_iload hx hb dX4_runsOne_167 (lv_at hl 0 rfl) ?_
                    have e : ro now tex tl a = (false, a, (doA now k (nI 1) (nI 1)).2) := by rw [ro_k (bI_ct c18) hk (by omega), roL_1 (Or.inr ⟨c44, bI_cf c51⟩), roF_1 (Or.inr c87), roE_2 c125 c138]
                    have hP : va_P D vwCl (MW h cI (ro now tex tl a).2.2 past pasts bef tri tex (nI tl) (nI (ro now tex tl a).2.1)) H := by rw [e]; exact hP
                    have hD : va_D A0 (MW h cI (ro now tex tl a).2.2 past pasts bef tri tex (nI tl) (nI (ro now tex tl a).2.1)) := by rw [e]; exact hD
                    exact RETN _ _ (nI 0) () _ _ dX4_runsOne_169 (rfl) (by rw [e]; rfl) hP hD hS
                  · skip
                    exfalso
                    exact absurd c151 (by decide)
                · skip
                  refine lv_iconst (v := (nI 1)) hx hb dX4_runsOne_141 (by decide) ?_
                  refine lv_goto (tgt := 146) hx hb dX4_runsOne_142 (by decide) ?_
                  refine lv_istore (lv' := [(5, .int (nI 1)), (4, .int (nI 1)), (3, .int (nI 1)), (2, .int (nI a)), (1, .int (nI k)), (0, .ref (h 0))]) hx hb dX4_runsOne_146 hl (by decide) rfl (fun ls hl => ?_)
                  refine lv_aload_n hx hb dX4_runsOne_148 rfl (lv_at hl 5 rfl) ?_
                  refine lv_iload hx hb dX4_runsOne_149 (lv_at hl 0 rfl) ?_
                  refine lv_if_eq (tgt := 163) hx hb dX4_runsOne_151 (by decide) (fun c151 => ?_) (fun c151 => ?_)
                  · skip
                    exfalso
                    exact absurd c151 (by decide)
                  · skip
                    refine lv_aload_n hx hb dX4_runsOne_154 rfl (lv_at hl 5 rfl) ?_
                    refine va_get (D := D) (ci := 4) (v := .int (nI (a + 1))) (C := RX4) (T := TX4) (N := 8) hx hb hts hI4 hown hK.1 hP 0 rfl rfl 7 (by decide) lk105 (fun _ h9 => h9) rfl dX4_runsOne_155 ?_
                    refine lv_iconst (v := (nI 1)) hx hb dX4_runsOne_158 (by decide) ?_
                    refine lv_iadd hx hb dX4_runsOne_159 ?_
                    refine n_as (x' := nI ((a + 1) + 1)) (nI_add _ _) ?_
                    refine lv_goto (tgt := 164) hx hb dX4_runsOne_160 (by decide) ?_
                    refine va_put (D := D) (ci := 4) (v := .int (nI ((a + 1) + 1))) (ty := .int) (C := RX4) (T := TX4) (N := 8) hx hb hts hI4 tyX4 tyX4_ok nmX4 hown hK.1 hP hD hS 0 rfl rfl 7 (by decide) lk105 (fun _ h9 => h9) rfl (by decide +kernel) rfl rfl (Nat.le_of_ble_eq_true rfl) dX4_runsOne_164 (fun H locs hP hD hS => ?_)
                    have hP : va_P D vwCl (MW h cI ((doA now k (nI 1) (nI 1)).2) past pasts bef tri tex (nI tl) (nI ((a + 1) + 1))) H := hP
                    have hD : va_D A0 (MW h cI ((doA now k (nI 1) (nI 1)).2) past pasts bef tri tex (nI tl) (nI ((a + 1) + 1))) := hD
                    refine lv_iload hx hb dX4_runsOne_167 (lv_at hl 0 rfl) ?_
                    have e : ro now tex tl a = (true, ((a + 1) + 1), (doA now k (nI 1) (nI 1)).2) := by rw [ro_k (bI_ct c18) hk (by omega), roL_1 (Or.inr ⟨c44, bI_cf c51⟩), roF_1 (Or.inr c87), roE_3 c125 c138]
                    have hP : va_P D vwCl (MW h cI (ro now tex tl a).2.2 past pasts bef tri tex (nI tl) (nI (ro now tex tl a).2.1)) H := by rw [e]; exact hP
                    have hD : va_D A0 (MW h cI (ro now tex tl a).2.2 past pasts bef tri tex (nI tl) (nI (ro now tex tl a).2.1)) := by rw [e]; exact hD
                    exact RETN _ _ (nI 1) () _ _ dX4_runsOne_169 (rfl) (by rw [e]; rfl) hP hD hS
              · skip
                refine lv_iconst (v := (nI 0)) hx hb dX4_runsOne_128 (by decide) ?_
                have e : ro now tex tl a = (false, (a + 1), now) := by rw [ro_k (bI_ct c18) hk (by omega), roL_1 (Or.inr ⟨c44, bI_cf c51⟩), roF_1 (Or.inr c87), roE_1 c125]
                have hP : va_P D vwCl (MW h cI (ro now tex tl a).2.2 past pasts bef tri tex (nI tl) (nI (ro now tex tl a).2.1)) H := by rw [e]; exact hP
                have hD : va_D A0 (MW h cI (ro now tex tl a).2.2 past pasts bef tri tex (nI tl) (nI (ro now tex tl a).2.1)) := by rw [e]; exact hD
                exact RETN _ _ (nI 0) () _ _ dX4_runsOne_129 (rfl) (by rw [e]; rfl) hP hD hS
            · skip
              refine lv_aload_n hx hb dX4_runsOne_90 rfl (lv_at hl 4 rfl) ?_
              refine lv_dup hx hb dX4_runsOne_91 rfl ?_
              refine va_get (D := D) (ci := 4) (v := .int (nI (a + 1))) (C := RX4) (T := TX4) (N := 8) hx hb hts hI4 hown hK.1 hP 0 rfl rfl 7 (by decide) lk105 (fun _ h9 => h9) rfl dX4_runsOne_92 ?_
              refine lv_iconst (v := (nI 1)) hx hb dX4_runsOne_95 (by decide) ?_
              refine lv_iadd hx hb dX4_runsOne_96 ?_
              refine n_as (x' := nI ((a + 1) + 1)) (nI_add _ _) ?_
              refine va_put (D := D) (ci := 4) (v := .int (nI ((a + 1) + 1))) (ty := .int) (C := RX4) (T := TX4) (N := 8) hx hb hts hI4 tyX4 tyX4_ok nmX4 hown hK.1 hP hD hS 0 rfl rfl 7 (by decide) lk105 (fun _ h9 => h9) rfl (by decide +kernel) rfl rfl (Nat.le_of_ble_eq_true rfl) dX4_runsOne_97 (fun H locs hP hD hS => ?_)
              have hP : va_P D vwCl (MW h cI now past pasts bef tri tex (nI tl) (nI ((a + 1) + 1))) H := hP
              have hD : va_D A0 (MW h cI now past pasts bef tri tex (nI tl) (nI ((a + 1) + 1))) := hD
              refine lv_aload_n hx hb dX4_runsOne_100 rfl (lv_at hl 4 rfl) ?_
              refine cl_Vi (b := (h 0)) (As := []) (rest := []) (wc := MW h cI now past pasts bef tri tex (nI tl) (nI ((a + 1) + 1))) (wsN := fun (_ : Unit) => MW h cI now past pasts bef tri tex (nI tl) (nI ((a + 1) + 1))) F hK hA hP hD hS (c_X4_isDigit htl (by omega)) (cwV 0 hts gX4_runsOne_X4_isDigit rfl rfl rfl (by decide +kernel) ⟨Nat.le_of_ble_eq_true rfl, Nat.le_of_ble_eq_true rfl⟩) [0, 1, 2, 3, 4, 5] [] [0, 1, 2, 3, 4, 5] ([]) rfl rfl (fun _ => rfl) (by decide) (by decide) 0 rfl rfl rfl hl.1 rfl (Nat.le_of_ble_eq_true rfl) ⟨Nat.zero_le _, Nat.zero_le _⟩ dX4_runsOne_101 (fun r_58 _ H locs hw_57 hP hD hS => ?_)
              try dsimp only at hw_57 hP hD
              obtain rfl : r_58 = (bI (dgB tex tl ((a + 1) + 1))) := hw_57
              refine lv_if_ne (tgt := 109) hx hb dX4_runsOne_104 (by decide) (fun c104 => ?_) (fun c104 => ?_)
              · skip
                replace c104 : ¬ (bI (dgB tex tl ((a + 1) + 1))) = nI 0 := c104
                refine lv_aload_n hx hb dX4_runsOne_109 rfl (lv_at hl 4 rfl) ?_
                refine cl_Vi (b := (h 0)) (As := []) (rest := []) (wc := MW h cI now past pasts bef tri tex (nI tl) (nI ((a + 1) + 1))) (wsN := fun (_ : Unit) => MW h cI now past pasts bef tri tex (nI tl) (nI ((nm tex tl ((a + 1) + 1)).2))) F hK hA hP hD hS (c_X4_number htl (bI_ct c104)) (cwV 0 hts gX4_runsOne_X4_number rfl rfl rfl (by decide +kernel) ⟨Nat.le_of_ble_eq_true rfl, Nat.le_of_ble_eq_true rfl⟩) [0, 1, 2, 3, 4, 5] [] [0, 1, 2, 3, 4, 5] ([]) rfl rfl (fun _ => rfl) (by decide) (by decide) 0 rfl rfl rfl hl.1 rfl (Nat.le_of_ble_eq_true rfl) ⟨Nat.zero_le _, Nat.zero_le _⟩ dX4_runsOne_110 (fun r_60 _ H locs hw_59 hP hD hS => ?_)
                try dsimp only at hw_59 hP hD
                obtain rfl : r_60 = (nI ((nm tex tl ((a + 1) + 1)).1)) := hw_59
                have hnmc104 := nm_in (bI_ct c104)
                obtain ⟨hduc104, hdvc104, hdwc104⟩ := dg_of (bI_ct c104)
                refine lv_istore (lv' := [(4, .int (nI ((nm tex tl ((a + 1) + 1)).1))), (3, .int (nI 1)), (2, .int (nI a)), (1, .int (nI k)), (0, .ref (h 0))]) hx hb dX4_runsOne_113 hl (by decide) rfl (fun ls hl => ?_)
                refine lv_aload_n hx hb dX4_runsOne_115 rfl (lv_at hl 4 rfl) ?_
                refine lv_aload_n hx hb dX4_runsOne_116 rfl (lv_at hl 4 rfl) ?_
                refine va_get (D := D) (ci := 4) (v := .int (nI ((nm tex tl ((a + 1) + 1)).2))) (C := RX4) (T := TX4) (N := 8) hx hb hts hI4 hown hK.1 hP 0 rfl rfl 7 (by decide) lk105 (fun _ h9 => h9) rfl dX4_runsOne_117 ?_
                refine cl_Vi (b := (h 0)) (As := [.int (nI ((nm tex tl ((a + 1) + 1)).2))]) (rest := []) (wc := MW h cI now past pasts bef tri tex (nI tl) (nI ((nm tex tl ((a + 1) + 1)).2))) (wsN := fun (_ : Unit) => MW h cI now past pasts bef tri tex (nI tl) (nI ((nm tex tl ((a + 1) + 1)).2))) F hK hA hP hD hS (c_X4_signAt htl (by omega)) (cwV 1 hts gX4_runsOne_X4_signAt rfl rfl rfl (by decide +kernel) ⟨Nat.le_of_ble_eq_true rfl, Nat.le_of_ble_eq_true rfl⟩) [0, 1, 2, 3, 4, 5] [] [0, 1, 2, 3, 4, 5] ([]) rfl rfl (fun _ => rfl) (by decide) (by decide) 0 rfl rfl rfl hl.1 rfl (Nat.le_of_ble_eq_true rfl) ⟨Nat.zero_le _, Nat.zero_le _⟩ dX4_runsOne_120 (fun r_62 _ H locs hw_61 hP hD hS => ?_)
                try dsimp only at hw_61 hP hD
                obtain rfl : r_62 = (sg tex tl ((nm tex tl ((a + 1) + 1)).2)) := hw_61
                refine lv_bipush (v := (nI 59)) hx hb dX4_runsOne_123 (by decide) ?_
                refine lv_icmp_eq (tgt := 130) hx hb dX4_runsOne_125 (by decide) (fun c125 => ?_) (fun c125 => ?_)
                · skip
                  refine lv_aload_n hx hb dX4_runsOne_130 rfl (lv_at hl 4 rfl) ?_
                  refine lv_iload_n hx hb dX4_runsOne_131 rfl (lv_at hl 3 rfl) ?_
                  refine lv_iload_n hx hb dX4_runsOne_132 rfl (lv_at hl 1 rfl) ?_
                  refine lv_iload hx hb dX4_runsOne_133 (lv_at hl 0 rfl) ?_
                  refine cl_Vi (b := (h 0)) (As := [.int (nI k), .int (nI 1), .int (nI ((nm tex tl ((a + 1) + 1)).1))]) (rest := []) (wc := MW h cI now past pasts bef tri tex (nI tl) (nI ((nm tex tl ((a + 1) + 1)).2))) (wsN := fun (u1 : Nat → Int32) => MW h cI u1 past pasts bef tri tex (nI tl) (nI ((nm tex tl ((a + 1) + 1)).2))) F hK hA hP hD hS (c_X4_does (by omega) hB) (cwV 3 hts gX4_runsOne_X4_does rfl rfl rfl (by decide +kernel) ⟨Nat.le_of_ble_eq_true rfl, Nat.le_of_ble_eq_true rfl⟩) [0, 1, 2, 3, 4, 5] [] [0, 1, 2, 3, 4, 5] ([]) rfl rfl (fun _ => rfl) (by decide) (by decide) 0 rfl rfl rfl hl.1 rfl (Nat.le_of_ble_eq_true rfl) ⟨Nat.zero_le _, Nat.zero_le _⟩ dX4_runsOne_135 (fun r1 u1 H locs hw_63 hP hD hS => ?_)
                  try dsimp only at hw_63 hP hD
                  obtain ⟨rfl, rfl⟩ := hw_63
                  have hP : va_P D vwCl (MW h cI ((doA now k (nI 1) (nI ((nm tex tl ((a + 1) + 1)).1))).2) past pasts bef tri tex (nI tl) (nI ((nm tex tl ((a + 1) + 1)).2))) H := hP
                  have hD : va_D A0 (MW h cI ((doA now k (nI 1) (nI ((nm tex tl ((a + 1) + 1)).1))).2) past pasts bef tri tex (nI tl) (nI ((nm tex tl ((a + 1) + 1)).2))) := hD
                  refine lv_if_lt (tgt := 145) hx hb dX4_runsOne_138 (by decide) (fun c138 => ?_) (fun c138 => ?_)
                  · skip
                    refine lv_iconst (v := (nI 0)) hx hb dX4_runsOne_145 (by decide) ?_
                    refine lv_istore (lv' := [(5, .int (nI 0)), (4, .int (nI ((nm tex tl ((a + 1) + 1)).1))), (3, .int (nI 1)), (2, .int (nI a)), (1, .int (nI k)), (0, .ref (h 0))]) hx hb dX4_runsOne_146 hl (by decide) rfl (fun ls hl => ?_)
                    refine lv_aload_n hx hb dX4_runsOne_148 rfl (lv_at hl 5 rfl) ?_
                    refine lv_iload hx hb dX4_runsOne_149 (lv_at hl 0 rfl) ?_
                    refine lv_if_eq (tgt := 163) hx hb dX4_runsOne_151 (by decide) (fun c151 => ?_) (fun c151 => ?_)
                    · skip
                      refine lv_iload_n hx hb dX4_runsOne_163 rfl (lv_at hl 3 rfl) ?_
                      refine va_put (D := D) (ci := 4) (v := .int (nI a)) (ty := .int) (C := RX4) (T := TX4) (N := 8) hx hb hts hI4 tyX4 tyX4_ok nmX4 hown hK.1 hP hD hS 0 rfl rfl 7 (by decide) lk105 (fun _ h9 => h9) rfl (by decide +kernel) rfl rfl (Nat.le_of_ble_eq_true rfl) dX4_runsOne_164 (fun H locs hP hD hS => ?_)
                      have hP : va_P D vwCl (MW h cI ((doA now k (nI 1) (nI ((nm tex tl ((a + 1) + 1)).1))).2) past pasts bef tri tex (nI tl) (nI a)) H := hP
                      have hD : va_D A0 (MW h cI ((doA now k (nI 1) (nI ((nm tex tl ((a + 1) + 1)).1))).2) past pasts bef tri tex (nI tl) (nI a)) := hD
                      refine lv_iload hx hb dX4_runsOne_167 (lv_at hl 0 rfl) ?_
                      have e : ro now tex tl a = (false, a, (doA now k (nI 1) (nI ((nm tex tl ((a + 1) + 1)).1))).2) := by rw [ro_k (bI_ct c18) hk (by omega), roL_1 (Or.inr ⟨c44, bI_cf c51⟩), roF_2 c74 c87 (bI_ct c104), roE_2 c125 c138]
                      have hP : va_P D vwCl (MW h cI (ro now tex tl a).2.2 past pasts bef tri tex (nI tl) (nI (ro now tex tl a).2.1)) H := by rw [e]; exact hP
                      have hD : va_D A0 (MW h cI (ro now tex tl a).2.2 past pasts bef tri tex (nI tl) (nI (ro now tex tl a).2.1)) := by rw [e]; exact hD
                      exact RETN _ _ (nI 0) () _ _ dX4_runsOne_169 (rfl) (by rw [e]; rfl) hP hD hS
                    · skip
                      exfalso
                      exact absurd c151 (by decide)
                  · skip
                    refine lv_iconst (v := (nI 1)) hx hb dX4_runsOne_141 (by decide) ?_
                    refine lv_goto (tgt := 146) hx hb dX4_runsOne_142 (by decide) ?_
                    refine lv_istore (lv' := [(5, .int (nI 1)), (4, .int (nI ((nm tex tl ((a + 1) + 1)).1))), (3, .int (nI 1)), (2, .int (nI a)), (1, .int (nI k)), (0, .ref (h 0))]) hx hb dX4_runsOne_146 hl (by decide) rfl (fun ls hl => ?_)
                    refine lv_aload_n hx hb dX4_runsOne_148 rfl (lv_at hl 5 rfl) ?_
                    refine lv_iload hx hb dX4_runsOne_149 (lv_at hl 0 rfl) ?_
                    refine lv_if_eq (tgt := 163) hx hb dX4_runsOne_151 (by decide) (fun c151 => ?_) (fun c151 => ?_)
                    · skip
                      exfalso
                      exact absurd c151 (by decide)
                    · skip
                      refine lv_aload_n hx hb dX4_runsOne_154 rfl (lv_at hl 5 rfl) ?_
                      refine va_get (D := D) (ci := 4) (v := .int (nI ((nm tex tl ((a + 1) + 1)).2))) (C := RX4) (T := TX4) (N := 8) hx hb hts hI4 hown hK.1 hP 0 rfl rfl 7 (by decide) lk105 (fun _ h9 => h9) rfl dX4_runsOne_155 ?_
                      refine lv_iconst (v := (nI 1)) hx hb dX4_runsOne_158 (by decide) ?_
                      refine lv_iadd hx hb dX4_runsOne_159 ?_
                      refine n_as (x' := nI (((nm tex tl ((a + 1) + 1)).2) + 1)) (nI_add _ _) ?_
                      refine lv_goto (tgt := 164) hx hb dX4_runsOne_160 (by decide) ?_
                      refine va_put (D := D) (ci := 4) (v := .int (nI (((nm tex tl ((a + 1) + 1)).2) + 1))) (ty := .int) (C := RX4) (T := TX4) (N := 8) hx hb hts hI4 tyX4 tyX4_ok nmX4 hown hK.1 hP hD hS 0 rfl rfl 7 (by decide) lk105 (fun _ h9 => h9) rfl (by decide +kernel) rfl rfl (Nat.le_of_ble_eq_true rfl) dX4_runsOne_164 (fun H locs hP hD hS => ?_)
                      have hP : va_P D vwCl (MW h cI ((doA now k (nI 1) (nI ((nm tex tl ((a + 1) + 1)).1))).2) past pasts bef tri tex (nI tl) (nI (((nm tex tl ((a + 1) + 1)).2) + 1))) H := hP
                      have hD : va_D A0 (MW h cI ((doA now k (nI 1) (nI ((nm tex tl ((a + 1) + 1)).1))).2) past pasts bef tri tex (nI tl) (nI (((nm tex tl ((a + 1) + 1)).2) + 1))) := hD
                      refine lv_iload hx hb dX4_runsOne_167 (lv_at hl 0 rfl) ?_
                      have e : ro now tex tl a = (true, (((nm tex tl ((a + 1) + 1)).2) + 1), (doA now k (nI 1) (nI ((nm tex tl ((a + 1) + 1)).1))).2) := by rw [ro_k (bI_ct c18) hk (by omega), roL_1 (Or.inr ⟨c44, bI_cf c51⟩), roF_2 c74 c87 (bI_ct c104), roE_3 c125 c138]
                      have hP : va_P D vwCl (MW h cI (ro now tex tl a).2.2 past pasts bef tri tex (nI tl) (nI (ro now tex tl a).2.1)) H := by rw [e]; exact hP
                      have hD : va_D A0 (MW h cI (ro now tex tl a).2.2 past pasts bef tri tex (nI tl) (nI (ro now tex tl a).2.1)) := by rw [e]; exact hD
                      exact RETN _ _ (nI 1) () _ _ dX4_runsOne_169 (rfl) (by rw [e]; rfl) hP hD hS
                · skip
                  refine lv_iconst (v := (nI 0)) hx hb dX4_runsOne_128 (by decide) ?_
                  have e : ro now tex tl a = (false, (nm tex tl ((a + 1) + 1)).2, now) := by rw [ro_k (bI_ct c18) hk (by omega), roL_1 (Or.inr ⟨c44, bI_cf c51⟩), roF_2 c74 c87 (bI_ct c104), roE_1 c125]
                  have hP : va_P D vwCl (MW h cI (ro now tex tl a).2.2 past pasts bef tri tex (nI tl) (nI (ro now tex tl a).2.1)) H := by rw [e]; exact hP
                  have hD : va_D A0 (MW h cI (ro now tex tl a).2.2 past pasts bef tri tex (nI tl) (nI (ro now tex tl a).2.1)) := by rw [e]; exact hD
                  exact RETN _ _ (nI 0) () _ _ dX4_runsOne_129 (rfl) (by rw [e]; rfl) hP hD hS
              · skip
                replace c104 : (bI (dgB tex tl ((a + 1) + 1))) = nI 0 := c104
                refine lv_iconst (v := (nI 0)) hx hb dX4_runsOne_107 (by decide) ?_
                have e : ro now tex tl a = (false, ((a + 1) + 1), now) := by rw [ro_k (bI_ct c18) hk (by omega), roL_1 (Or.inr ⟨c44, bI_cf c51⟩), roF_3 c74 c87 (bI_cf c104)]
                have hP : va_P D vwCl (MW h cI (ro now tex tl a).2.2 past pasts bef tri tex (nI tl) (nI (ro now tex tl a).2.1)) H := by rw [e]; exact hP
                have hD : va_D A0 (MW h cI (ro now tex tl a).2.2 past pasts bef tri tex (nI tl) (nI (ro now tex tl a).2.1)) := by rw [e]; exact hD
                exact RETN _ _ (nI 0) () _ _ dX4_runsOne_108 (rfl) (by rw [e]; rfl) hP hD hS
        · skip
          replace c51 : ¬ (bI (dgB tex tl (a + 1))) = nI 0 := c51
          refine lv_aload_n hx hb dX4_runsOne_54 rfl (lv_at hl 3 rfl) ?_
          refine cl_Vi (b := (h 0)) (As := []) (rest := []) (wc := MW h cI now past pasts bef tri tex (nI tl) (nI (a + 1))) (wsN := fun (_ : Unit) => MW h cI now past pasts bef tri tex (nI tl) (nI (a + 1))) F hK hA hP hD hS (c_X4_isDigit htl (by omega)) (cwV 0 hts gX4_runsOne_X4_isDigit rfl rfl rfl (by decide +kernel) ⟨Nat.le_of_ble_eq_true rfl, Nat.le_of_ble_eq_true rfl⟩) [0, 1, 2, 3, 4, 5] [] [0, 1, 2, 3, 4, 5] ([]) rfl rfl (fun _ => rfl) (by decide) (by decide) 0 rfl rfl rfl hl.1 rfl (Nat.le_of_ble_eq_true rfl) ⟨Nat.zero_le _, Nat.zero_le _⟩ dX4_runsOne_55 (fun r_66 _ H locs hw_65 hP hD hS => ?_)
          try dsimp only at hw_65 hP hD
          obtain rfl : r_66 = (bI (dgB tex tl (a + 1))) := hw_65
          refine lv_if_ne (tgt := 63) hx hb dX4_runsOne_58 (by decide) (fun c58 => ?_) (fun c58 => ?_)
          · skip
            replace c58 : ¬ (bI (dgB tex tl (a + 1))) = nI 0 := c58
            refine lv_aload_n hx hb dX4_runsOne_63 rfl (lv_at hl 3 rfl) ?_
            refine cl_Vi (b := (h 0)) (As := []) (rest := []) (wc := MW h cI now past pasts bef tri tex (nI tl) (nI (a + 1))) (wsN := fun (_ : Unit) => MW h cI now past pasts bef tri tex (nI tl) (nI ((nm tex tl (a + 1)).2))) F hK hA hP hD hS (c_X4_number htl (bI_ct c58)) (cwV 0 hts gX4_runsOne_X4_number rfl rfl rfl (by decide +kernel) ⟨Nat.le_of_ble_eq_true rfl, Nat.le_of_ble_eq_true rfl⟩) [0, 1, 2, 3, 4, 5] [] [0, 1, 2, 3, 4, 5] ([]) rfl rfl (fun _ => rfl) (by decide) (by decide) 0 rfl rfl rfl hl.1 rfl (Nat.le_of_ble_eq_true rfl) ⟨Nat.zero_le _, Nat.zero_le _⟩ dX4_runsOne_64 (fun r_68 _ H locs hw_67 hP hD hS => ?_)
            try dsimp only at hw_67 hP hD
            obtain rfl : r_68 = (nI ((nm tex tl (a + 1)).1)) := hw_67
            have hnmc58 := nm_in (bI_ct c58)
            obtain ⟨hduc58, hdvc58, hdwc58⟩ := dg_of (bI_ct c58)
            refine lv_istore_n (lv' := [(3, .int (nI ((nm tex tl (a + 1)).1))), (2, .int (nI a)), (1, .int (nI k)), (0, .ref (h 0))]) hx hb dX4_runsOne_67 rfl hl (by decide) rfl (fun ls hl => ?_)
            refine lv_iload_n hx hb dX4_runsOne_68 rfl (lv_at hl 0 rfl) ?_
            refine lv_istore (lv' := [(4, .int (nI ((nm tex tl (a + 1)).1))), (3, .int (nI ((nm tex tl (a + 1)).1))), (2, .int (nI a)), (1, .int (nI k)), (0, .ref (h 0))]) hx hb dX4_runsOne_69 hl (by decide) rfl (fun ls hl => ?_)
            refine lv_iload_n hx hb dX4_runsOne_71 rfl (lv_at hl 3 rfl) ?_
            refine lv_bipush (v := (nI 102)) hx hb dX4_runsOne_72 (by decide) ?_
            refine lv_icmp_ne (tgt := 115) hx hb dX4_runsOne_74 (by decide) (fun c74 => ?_) (fun c74 => ?_)
            · skip
              replace c74 : ¬ k = 102 := by rw [nI_eq (by omega) (by omega)] at c74; exact c74
              refine lv_aload_n hx hb dX4_runsOne_115 rfl (lv_at hl 4 rfl) ?_
              refine lv_aload_n hx hb dX4_runsOne_116 rfl (lv_at hl 4 rfl) ?_
              refine va_get (D := D) (ci := 4) (v := .int (nI ((nm tex tl (a + 1)).2))) (C := RX4) (T := TX4) (N := 8) hx hb hts hI4 hown hK.1 hP 0 rfl rfl 7 (by decide) lk105 (fun _ h9 => h9) rfl dX4_runsOne_117 ?_
              refine cl_Vi (b := (h 0)) (As := [.int (nI ((nm tex tl (a + 1)).2))]) (rest := []) (wc := MW h cI now past pasts bef tri tex (nI tl) (nI ((nm tex tl (a + 1)).2))) (wsN := fun (_ : Unit) => MW h cI now past pasts bef tri tex (nI tl) (nI ((nm tex tl (a + 1)).2))) F hK hA hP hD hS (c_X4_signAt htl (by omega)) (cwV 1 hts gX4_runsOne_X4_signAt rfl rfl rfl (by decide +kernel) ⟨Nat.le_of_ble_eq_true rfl, Nat.le_of_ble_eq_true rfl⟩) [0, 1, 2, 3, 4, 5] [] [0, 1, 2, 3, 4, 5] ([]) rfl rfl (fun _ => rfl) (by decide) (by decide) 0 rfl rfl rfl hl.1 rfl (Nat.le_of_ble_eq_true rfl) ⟨Nat.zero_le _, Nat.zero_le _⟩ dX4_runsOne_120 (fun r_70 _ H locs hw_69 hP hD hS => ?_)
              try dsimp only at hw_69 hP hD
              obtain rfl : r_70 = (sg tex tl ((nm tex tl (a + 1)).2)) := hw_69
              refine lv_bipush (v := (nI 59)) hx hb dX4_runsOne_123 (by decide) ?_
              refine lv_icmp_eq (tgt := 130) hx hb dX4_runsOne_125 (by decide) (fun c125 => ?_) (fun c125 => ?_)
              · skip
                refine lv_aload_n hx hb dX4_runsOne_130 rfl (lv_at hl 4 rfl) ?_
                refine lv_iload_n hx hb dX4_runsOne_131 rfl (lv_at hl 3 rfl) ?_
                refine lv_iload_n hx hb dX4_runsOne_132 rfl (lv_at hl 1 rfl) ?_
                refine lv_iload hx hb dX4_runsOne_133 (lv_at hl 0 rfl) ?_
                refine cl_Vi (b := (h 0)) (As := [.int (nI k), .int (nI ((nm tex tl (a + 1)).1)), .int (nI ((nm tex tl (a + 1)).1))]) (rest := []) (wc := MW h cI now past pasts bef tri tex (nI tl) (nI ((nm tex tl (a + 1)).2))) (wsN := fun (u1 : Nat → Int32) => MW h cI u1 past pasts bef tri tex (nI tl) (nI ((nm tex tl (a + 1)).2))) F hK hA hP hD hS (c_X4_does (by omega) hB) (cwV 3 hts gX4_runsOne_X4_does rfl rfl rfl (by decide +kernel) ⟨Nat.le_of_ble_eq_true rfl, Nat.le_of_ble_eq_true rfl⟩) [0, 1, 2, 3, 4, 5] [] [0, 1, 2, 3, 4, 5] ([]) rfl rfl (fun _ => rfl) (by decide) (by decide) 0 rfl rfl rfl hl.1 rfl (Nat.le_of_ble_eq_true rfl) ⟨Nat.zero_le _, Nat.zero_le _⟩ dX4_runsOne_135 (fun r1 u1 H locs hw_71 hP hD hS => ?_)
                try dsimp only at hw_71 hP hD
                obtain ⟨rfl, rfl⟩ := hw_71
                have hP : va_P D vwCl (MW h cI ((doA now k (nI ((nm tex tl (a + 1)).1)) (nI ((nm tex tl (a + 1)).1))).2) past pasts bef tri tex (nI tl) (nI ((nm tex tl (a + 1)).2))) H := hP
                have hD : va_D A0 (MW h cI ((doA now k (nI ((nm tex tl (a + 1)).1)) (nI ((nm tex tl (a + 1)).1))).2) past pasts bef tri tex (nI tl) (nI ((nm tex tl (a + 1)).2))) := hD
                refine lv_if_lt (tgt := 145) hx hb dX4_runsOne_138 (by decide) (fun c138 => ?_) (fun c138 => ?_)
                · skip
                  refine lv_iconst (v := (nI 0)) hx hb dX4_runsOne_145 (by decide) ?_
                  refine lv_istore (lv' := [(5, .int (nI 0)), (4, .int (nI ((nm tex tl (a + 1)).1))), (3, .int (nI ((nm tex tl (a + 1)).1))), (2, .int (nI a)), (1, .int (nI k)), (0, .ref (h 0))]) hx hb dX4_runsOne_146 hl (by decide) rfl (fun ls hl => ?_)
                  refine lv_aload_n hx hb dX4_runsOne_148 rfl (lv_at hl 5 rfl) ?_
                  refine lv_iload hx hb dX4_runsOne_149 (lv_at hl 0 rfl) ?_
                  refine lv_if_eq (tgt := 163) hx hb dX4_runsOne_151 (by decide) (fun c151 => ?_) (fun c151 => ?_)
                  · skip
                    refine lv_iload_n hx hb dX4_runsOne_163 rfl (lv_at hl 3 rfl) ?_
                    refine va_put (D := D) (ci := 4) (v := .int (nI a)) (ty := .int) (C := RX4) (T := TX4) (N := 8) hx hb hts hI4 tyX4 tyX4_ok nmX4 hown hK.1 hP hD hS 0 rfl rfl 7 (by decide) lk105 (fun _ h9 => h9) rfl (by decide +kernel) rfl rfl (Nat.le_of_ble_eq_true rfl) dX4_runsOne_164 (fun H locs hP hD hS => ?_)
                    have hP : va_P D vwCl (MW h cI ((doA now k (nI ((nm tex tl (a + 1)).1)) (nI ((nm tex tl (a + 1)).1))).2) past pasts bef tri tex (nI tl) (nI a)) H := hP
                    have hD : va_D A0 (MW h cI ((doA now k (nI ((nm tex tl (a + 1)).1)) (nI ((nm tex tl (a + 1)).1))).2) past pasts bef tri tex (nI tl) (nI a)) := hD
                    refine lv_iload hx hb dX4_runsOne_167 (lv_at hl 0 rfl) ?_
                    have e : ro now tex tl a = (false, a, (doA now k (nI ((nm tex tl (a + 1)).1)) (nI ((nm tex tl (a + 1)).1))).2) := by rw [ro_k (bI_ct c18) hk (by omega), roL_2 c38 (bI_ct c58), roF_1 (Or.inl c74), roE_2 c125 c138]
                    have hP : va_P D vwCl (MW h cI (ro now tex tl a).2.2 past pasts bef tri tex (nI tl) (nI (ro now tex tl a).2.1)) H := by rw [e]; exact hP
                    have hD : va_D A0 (MW h cI (ro now tex tl a).2.2 past pasts bef tri tex (nI tl) (nI (ro now tex tl a).2.1)) := by rw [e]; exact hD
                    exact RETN _ _ (nI 0) () _ _ dX4_runsOne_169 (rfl) (by rw [e]; rfl) hP hD hS
                  · skip
                    exfalso
                    exact absurd c151 (by decide)
                · skip
                  refine lv_iconst (v := (nI 1)) hx hb dX4_runsOne_141 (by decide) ?_
                  refine lv_goto (tgt := 146) hx hb dX4_runsOne_142 (by decide) ?_
                  refine lv_istore (lv' := [(5, .int (nI 1)), (4, .int (nI ((nm tex tl (a + 1)).1))), (3, .int (nI ((nm tex tl (a + 1)).1))), (2, .int (nI a)), (1, .int (nI k)), (0, .ref (h 0))]) hx hb dX4_runsOne_146 hl (by decide) rfl (fun ls hl => ?_)
                  refine lv_aload_n hx hb dX4_runsOne_148 rfl (lv_at hl 5 rfl) ?_
                  refine lv_iload hx hb dX4_runsOne_149 (lv_at hl 0 rfl) ?_
                  refine lv_if_eq (tgt := 163) hx hb dX4_runsOne_151 (by decide) (fun c151 => ?_) (fun c151 => ?_)
                  · skip
                    exfalso
                    exact absurd c151 (by decide)
                  · skip
                    refine lv_aload_n hx hb dX4_runsOne_154 rfl (lv_at hl 5 rfl) ?_
                    refine va_get (D := D) (ci := 4) (v := .int (nI ((nm tex tl (a + 1)).2))) (C := RX4) (T := TX4) (N := 8) hx hb hts hI4 hown hK.1 hP 0 rfl rfl 7 (by decide) lk105 (fun _ h9 => h9) rfl dX4_runsOne_155 ?_
                    refine lv_iconst (v := (nI 1)) hx hb dX4_runsOne_158 (by decide) ?_
                    refine lv_iadd hx hb dX4_runsOne_159 ?_
                    refine n_as (x' := nI (((nm tex tl (a + 1)).2) + 1)) (nI_add _ _) ?_
                    refine lv_goto (tgt := 164) hx hb dX4_runsOne_160 (by decide) ?_
                    refine va_put (D := D) (ci := 4) (v := .int (nI (((nm tex tl (a + 1)).2) + 1))) (ty := .int) (C := RX4) (T := TX4) (N := 8) hx hb hts hI4 tyX4 tyX4_ok nmX4 hown hK.1 hP hD hS 0 rfl rfl 7 (by decide) lk105 (fun _ h9 => h9) rfl (by decide +kernel) rfl rfl (Nat.le_of_ble_eq_true rfl) dX4_runsOne_164 (fun H locs hP hD hS => ?_)
                    have hP : va_P D vwCl (MW h cI ((doA now k (nI ((nm tex tl (a + 1)).1)) (nI ((nm tex tl (a + 1)).1))).2) past pasts bef tri tex (nI tl) (nI (((nm tex tl (a + 1)).2) + 1))) H := hP
                    have hD : va_D A0 (MW h cI ((doA now k (nI ((nm tex tl (a + 1)).1)) (nI ((nm tex tl (a + 1)).1))).2) past pasts bef tri tex (nI tl) (nI (((nm tex tl (a + 1)).2) + 1))) := hD
                    refine lv_iload hx hb dX4_runsOne_167 (lv_at hl 0 rfl) ?_
                    have e : ro now tex tl a = (true, (((nm tex tl (a + 1)).2) + 1), (doA now k (nI ((nm tex tl (a + 1)).1)) (nI ((nm tex tl (a + 1)).1))).2) := by rw [ro_k (bI_ct c18) hk (by omega), roL_2 c38 (bI_ct c58), roF_1 (Or.inl c74), roE_3 c125 c138]
                    have hP : va_P D vwCl (MW h cI (ro now tex tl a).2.2 past pasts bef tri tex (nI tl) (nI (ro now tex tl a).2.1)) H := by rw [e]; exact hP
                    have hD : va_D A0 (MW h cI (ro now tex tl a).2.2 past pasts bef tri tex (nI tl) (nI (ro now tex tl a).2.1)) := by rw [e]; exact hD
                    exact RETN _ _ (nI 1) () _ _ dX4_runsOne_169 (rfl) (by rw [e]; rfl) hP hD hS
              · skip
                refine lv_iconst (v := (nI 0)) hx hb dX4_runsOne_128 (by decide) ?_
                have e : ro now tex tl a = (false, (nm tex tl (a + 1)).2, now) := by rw [ro_k (bI_ct c18) hk (by omega), roL_2 c38 (bI_ct c58), roF_1 (Or.inl c74), roE_1 c125]
                have hP : va_P D vwCl (MW h cI (ro now tex tl a).2.2 past pasts bef tri tex (nI tl) (nI (ro now tex tl a).2.1)) H := by rw [e]; exact hP
                have hD : va_D A0 (MW h cI (ro now tex tl a).2.2 past pasts bef tri tex (nI tl) (nI (ro now tex tl a).2.1)) := by rw [e]; exact hD
                exact RETN _ _ (nI 0) () _ _ dX4_runsOne_129 (rfl) (by rw [e]; rfl) hP hD hS
            · skip
              replace c74 : k = 102 := by rw [nI_eq (by omega) (by omega)] at c74; exact c74
              refine lv_aload_n hx hb dX4_runsOne_77 rfl (lv_at hl 4 rfl) ?_
              refine lv_aload_n hx hb dX4_runsOne_78 rfl (lv_at hl 4 rfl) ?_
              refine va_get (D := D) (ci := 4) (v := .int (nI ((nm tex tl (a + 1)).2))) (C := RX4) (T := TX4) (N := 8) hx hb hts hI4 hown hK.1 hP 0 rfl rfl 7 (by decide) lk105 (fun _ h9 => h9) rfl dX4_runsOne_79 ?_
              refine cl_Vi (b := (h 0)) (As := [.int (nI ((nm tex tl (a + 1)).2))]) (rest := []) (wc := MW h cI now past pasts bef tri tex (nI tl) (nI ((nm tex tl (a + 1)).2))) (wsN := fun (_ : Unit) => MW h cI now past pasts bef tri tex (nI tl) (nI ((nm tex tl (a + 1)).2))) F hK hA hP hD hS (c_X4_signAt htl (by omega)) (cwV 1 hts gX4_runsOne_X4_signAt rfl rfl rfl (by decide +kernel) ⟨Nat.le_of_ble_eq_true rfl, Nat.le_of_ble_eq_true rfl⟩) [0, 1, 2, 3, 4, 5] [] [0, 1, 2, 3, 4, 5] ([]) rfl rfl (fun _ => rfl) (by decide) (by decide) 0 rfl rfl rfl hl.1 rfl (Nat.le_of_ble_eq_true rfl) ⟨Nat.zero_le _, Nat.zero_le _⟩ dX4_runsOne_82 (fun r_74 _ H locs hw_73 hP hD hS => ?_)
              try dsimp only at hw_73 hP hD
              obtain rfl : r_74 = (sg tex tl ((nm tex tl (a + 1)).2)) := hw_73
              refine lv_bipush (v := (nI 45)) hx hb dX4_runsOne_85 (by decide) ?_
              refine lv_icmp_ne (tgt := 115) hx hb dX4_runsOne_87 (by decide) (fun c87 => ?_) (fun c87 => ?_)
              · skip
                refine lv_aload_n hx hb dX4_runsOne_115 rfl (lv_at hl 4 rfl) ?_
                refine lv_aload_n hx hb dX4_runsOne_116 rfl (lv_at hl 4 rfl) ?_
                refine va_get (D := D) (ci := 4) (v := .int (nI ((nm tex tl (a + 1)).2))) (C := RX4) (T := TX4) (N := 8) hx hb hts hI4 hown hK.1 hP 0 rfl rfl 7 (by decide) lk105 (fun _ h9 => h9) rfl dX4_runsOne_117 ?_
                refine cl_Vi (b := (h 0)) (As := [.int (nI ((nm tex tl (a + 1)).2))]) (rest := []) (wc := MW h cI now past pasts bef tri tex (nI tl) (nI ((nm tex tl (a + 1)).2))) (wsN := fun (_ : Unit) => MW h cI now past pasts bef tri tex (nI tl) (nI ((nm tex tl (a + 1)).2))) F hK hA hP hD hS (c_X4_signAt htl (by omega)) (cwV 1 hts gX4_runsOne_X4_signAt rfl rfl rfl (by decide +kernel) ⟨Nat.le_of_ble_eq_true rfl, Nat.le_of_ble_eq_true rfl⟩) [0, 1, 2, 3, 4, 5] [] [0, 1, 2, 3, 4, 5] ([]) rfl rfl (fun _ => rfl) (by decide) (by decide) 0 rfl rfl rfl hl.1 rfl (Nat.le_of_ble_eq_true rfl) ⟨Nat.zero_le _, Nat.zero_le _⟩ dX4_runsOne_120 (fun r_76 _ H locs hw_75 hP hD hS => ?_)
                try dsimp only at hw_75 hP hD
                obtain rfl : r_76 = (sg tex tl ((nm tex tl (a + 1)).2)) := hw_75
                refine lv_bipush (v := (nI 59)) hx hb dX4_runsOne_123 (by decide) ?_
                refine lv_icmp_eq (tgt := 130) hx hb dX4_runsOne_125 (by decide) (fun c125 => ?_) (fun c125 => ?_)
                · skip
                  refine lv_aload_n hx hb dX4_runsOne_130 rfl (lv_at hl 4 rfl) ?_
                  refine lv_iload_n hx hb dX4_runsOne_131 rfl (lv_at hl 3 rfl) ?_
                  refine lv_iload_n hx hb dX4_runsOne_132 rfl (lv_at hl 1 rfl) ?_
                  refine lv_iload hx hb dX4_runsOne_133 (lv_at hl 0 rfl) ?_
                  refine cl_Vi (b := (h 0)) (As := [.int (nI k), .int (nI ((nm tex tl (a + 1)).1)), .int (nI ((nm tex tl (a + 1)).1))]) (rest := []) (wc := MW h cI now past pasts bef tri tex (nI tl) (nI ((nm tex tl (a + 1)).2))) (wsN := fun (u1 : Nat → Int32) => MW h cI u1 past pasts bef tri tex (nI tl) (nI ((nm tex tl (a + 1)).2))) F hK hA hP hD hS (c_X4_does (by omega) hB) (cwV 3 hts gX4_runsOne_X4_does rfl rfl rfl (by decide +kernel) ⟨Nat.le_of_ble_eq_true rfl, Nat.le_of_ble_eq_true rfl⟩) [0, 1, 2, 3, 4, 5] [] [0, 1, 2, 3, 4, 5] ([]) rfl rfl (fun _ => rfl) (by decide) (by decide) 0 rfl rfl rfl hl.1 rfl (Nat.le_of_ble_eq_true rfl) ⟨Nat.zero_le _, Nat.zero_le _⟩ dX4_runsOne_135 (fun r1 u1 H locs hw_77 hP hD hS => ?_)
                  try dsimp only at hw_77 hP hD
                  obtain ⟨rfl, rfl⟩ := hw_77
                  have hP : va_P D vwCl (MW h cI ((doA now k (nI ((nm tex tl (a + 1)).1)) (nI ((nm tex tl (a + 1)).1))).2) past pasts bef tri tex (nI tl) (nI ((nm tex tl (a + 1)).2))) H := hP
                  have hD : va_D A0 (MW h cI ((doA now k (nI ((nm tex tl (a + 1)).1)) (nI ((nm tex tl (a + 1)).1))).2) past pasts bef tri tex (nI tl) (nI ((nm tex tl (a + 1)).2))) := hD
                  refine lv_if_lt (tgt := 145) hx hb dX4_runsOne_138 (by decide) (fun c138 => ?_) (fun c138 => ?_)
                  · skip
                    refine lv_iconst (v := (nI 0)) hx hb dX4_runsOne_145 (by decide) ?_
                    refine lv_istore (lv' := [(5, .int (nI 0)), (4, .int (nI ((nm tex tl (a + 1)).1))), (3, .int (nI ((nm tex tl (a + 1)).1))), (2, .int (nI a)), (1, .int (nI k)), (0, .ref (h 0))]) hx hb dX4_runsOne_146 hl (by decide) rfl (fun ls hl => ?_)
                    refine lv_aload_n hx hb dX4_runsOne_148 rfl (lv_at hl 5 rfl) ?_
                    refine lv_iload hx hb dX4_runsOne_149 (lv_at hl 0 rfl) ?_
                    refine lv_if_eq (tgt := 163) hx hb dX4_runsOne_151 (by decide) (fun c151 => ?_) (fun c151 => ?_)
                    · skip
                      refine lv_iload_n hx hb dX4_runsOne_163 rfl (lv_at hl 3 rfl) ?_
                      refine va_put (D := D) (ci := 4) (v := .int (nI a)) (ty := .int) (C := RX4) (T := TX4) (N := 8) hx hb hts hI4 tyX4 tyX4_ok nmX4 hown hK.1 hP hD hS 0 rfl rfl 7 (by decide) lk105 (fun _ h9 => h9) rfl (by decide +kernel) rfl rfl (Nat.le_of_ble_eq_true rfl) dX4_runsOne_164 (fun H locs hP hD hS => ?_)
                      have hP : va_P D vwCl (MW h cI ((doA now k (nI ((nm tex tl (a + 1)).1)) (nI ((nm tex tl (a + 1)).1))).2) past pasts bef tri tex (nI tl) (nI a)) H := hP
                      have hD : va_D A0 (MW h cI ((doA now k (nI ((nm tex tl (a + 1)).1)) (nI ((nm tex tl (a + 1)).1))).2) past pasts bef tri tex (nI tl) (nI a)) := hD
                      refine lv_iload hx hb dX4_runsOne_167 (lv_at hl 0 rfl) ?_
                      have e : ro now tex tl a = (false, a, (doA now k (nI ((nm tex tl (a + 1)).1)) (nI ((nm tex tl (a + 1)).1))).2) := by rw [ro_k (bI_ct c18) hk (by omega), roL_2 c38 (bI_ct c58), roF_1 (Or.inr c87), roE_2 c125 c138]
                      have hP : va_P D vwCl (MW h cI (ro now tex tl a).2.2 past pasts bef tri tex (nI tl) (nI (ro now tex tl a).2.1)) H := by rw [e]; exact hP
                      have hD : va_D A0 (MW h cI (ro now tex tl a).2.2 past pasts bef tri tex (nI tl) (nI (ro now tex tl a).2.1)) := by rw [e]; exact hD
                      exact RETN _ _ (nI 0) () _ _ dX4_runsOne_169 (rfl) (by rw [e]; rfl) hP hD hS
                    · skip
                      exfalso
                      exact absurd c151 (by decide)
                  · skip
                    refine lv_iconst (v := (nI 1)) hx hb dX4_runsOne_141 (by decide) ?_
                    refine lv_goto (tgt := 146) hx hb dX4_runsOne_142 (by decide) ?_
                    refine lv_istore (lv' := [(5, .int (nI 1)), (4, .int (nI ((nm tex tl (a + 1)).1))), (3, .int (nI ((nm tex tl (a + 1)).1))), (2, .int (nI a)), (1, .int (nI k)), (0, .ref (h 0))]) hx hb dX4_runsOne_146 hl (by decide) rfl (fun ls hl => ?_)
                    refine lv_aload_n hx hb dX4_runsOne_148 rfl (lv_at hl 5 rfl) ?_
                    refine lv_iload hx hb dX4_runsOne_149 (lv_at hl 0 rfl) ?_
                    refine lv_if_eq (tgt := 163) hx hb dX4_runsOne_151 (by decide) (fun c151 => ?_) (fun c151 => ?_)
                    · skip
                      exfalso
                      exact absurd c151 (by decide)
                    · skip
                      refine lv_aload_n hx hb dX4_runsOne_154 rfl (lv_at hl 5 rfl) ?_
                      refine va_get (D := D) (ci := 4) (v := .int (nI ((nm tex tl (a + 1)).2))) (C := RX4) (T := TX4) (N := 8) hx hb hts hI4 hown hK.1 hP 0 rfl rfl 7 (by decide) lk105 (fun _ h9 => h9) rfl dX4_runsOne_155 ?_
                      refine lv_iconst (v := (nI 1)) hx hb dX4_runsOne_158 (by decide) ?_
                      refine lv_iadd hx hb dX4_runsOne_159 ?_
                      refine n_as (x' := nI (((nm tex tl (a + 1)).2) + 1)) (nI_add _ _) ?_
                      refine lv_goto (tgt := 164) hx hb dX4_runsOne_160 (by decide) ?_
                      refine va_put (D := D) (ci := 4) (v := .int (nI (((nm tex tl (a + 1)).2) + 1))) (ty := .int) (C := RX4) (T := TX4) (N := 8) hx hb hts hI4 tyX4 tyX4_ok nmX4 hown hK.1 hP hD hS 0 rfl rfl 7 (by decide) lk105 (fun _ h9 => h9) rfl (by decide +kernel) rfl rfl (Nat.le_of_ble_eq_true rfl) dX4_runsOne_164 (fun H locs hP hD hS => ?_)
                      have hP : va_P D vwCl (MW h cI ((doA now k (nI ((nm tex tl (a + 1)).1)) (nI ((nm tex tl (a + 1)).1))).2) past pasts bef tri tex (nI tl) (nI (((nm tex tl (a + 1)).2) + 1))) H := hP
                      have hD : va_D A0 (MW h cI ((doA now k (nI ((nm tex tl (a + 1)).1)) (nI ((nm tex tl (a + 1)).1))).2) past pasts bef tri tex (nI tl) (nI (((nm tex tl (a + 1)).2) + 1))) := hD
                      refine lv_iload hx hb dX4_runsOne_167 (lv_at hl 0 rfl) ?_
                      have e : ro now tex tl a = (true, (((nm tex tl (a + 1)).2) + 1), (doA now k (nI ((nm tex tl (a + 1)).1)) (nI ((nm tex tl (a + 1)).1))).2) := by rw [ro_k (bI_ct c18) hk (by omega), roL_2 c38 (bI_ct c58), roF_1 (Or.inr c87), roE_3 c125 c138]
                      have hP : va_P D vwCl (MW h cI (ro now tex tl a).2.2 past pasts bef tri tex (nI tl) (nI (ro now tex tl a).2.1)) H := by rw [e]; exact hP
                      have hD : va_D A0 (MW h cI (ro now tex tl a).2.2 past pasts bef tri tex (nI tl) (nI (ro now tex tl a).2.1)) := by rw [e]; exact hD
                      exact RETN _ _ (nI 1) () _ _ dX4_runsOne_169 (rfl) (by rw [e]; rfl) hP hD hS
                · skip
                  refine lv_iconst (v := (nI 0)) hx hb dX4_runsOne_128 (by decide) ?_
                  have e : ro now tex tl a = (false, (nm tex tl (a + 1)).2, now) := by rw [ro_k (bI_ct c18) hk (by omega), roL_2 c38 (bI_ct c58), roF_1 (Or.inr c87), roE_1 c125]
                  have hP : va_P D vwCl (MW h cI (ro now tex tl a).2.2 past pasts bef tri tex (nI tl) (nI (ro now tex tl a).2.1)) H := by rw [e]; exact hP
                  have hD : va_D A0 (MW h cI (ro now tex tl a).2.2 past pasts bef tri tex (nI tl) (nI (ro now tex tl a).2.1)) := by rw [e]; exact hD
                  exact RETN _ _ (nI 0) () _ _ dX4_runsOne_129 (rfl) (by rw [e]; rfl) hP hD hS
              · skip
                refine lv_aload_n hx hb dX4_runsOne_90 rfl (lv_at hl 4 rfl) ?_
                refine lv_dup hx hb dX4_runsOne_91 rfl ?_
                refine va_get (D := D) (ci := 4) (v := .int (nI ((nm tex tl (a + 1)).2))) (C := RX4) (T := TX4) (N := 8) hx hb hts hI4 hown hK.1 hP 0 rfl rfl 7 (by decide) lk105 (fun _ h9 => h9) rfl dX4_runsOne_92 ?_
                refine lv_iconst (v := (nI 1)) hx hb dX4_runsOne_95 (by decide) ?_
                refine lv_iadd hx hb dX4_runsOne_96 ?_
                refine n_as (x' := nI (((nm tex tl (a + 1)).2) + 1)) (nI_add _ _) ?_
                refine va_put (D := D) (ci := 4) (v := .int (nI (((nm tex tl (a + 1)).2) + 1))) (ty := .int) (C := RX4) (T := TX4) (N := 8) hx hb hts hI4 tyX4 tyX4_ok nmX4 hown hK.1 hP hD hS 0 rfl rfl 7 (by decide) lk105 (fun _ h9 => h9) rfl (by decide +kernel) rfl rfl (Nat.le_of_ble_eq_true rfl) dX4_runsOne_97 (fun H locs hP hD hS => ?_)
                have hP : va_P D vwCl (MW h cI now past pasts bef tri tex (nI tl) (nI (((nm tex tl (a + 1)).2) + 1))) H := hP
                have hD : va_D A0 (MW h cI now past pasts bef tri tex (nI tl) (nI (((nm tex tl (a + 1)).2) + 1))) := hD
                refine lv_aload_n hx hb dX4_runsOne_100 rfl (lv_at hl 4 rfl) ?_
                refine cl_Vi (b := (h 0)) (As := []) (rest := []) (wc := MW h cI now past pasts bef tri tex (nI tl) (nI (((nm tex tl (a + 1)).2) + 1))) (wsN := fun (_ : Unit) => MW h cI now past pasts bef tri tex (nI tl) (nI (((nm tex tl (a + 1)).2) + 1))) F hK hA hP hD hS (c_X4_isDigit htl (by omega)) (cwV 0 hts gX4_runsOne_X4_isDigit rfl rfl rfl (by decide +kernel) ⟨Nat.le_of_ble_eq_true rfl, Nat.le_of_ble_eq_true rfl⟩) [0, 1, 2, 3, 4, 5] [] [0, 1, 2, 3, 4, 5] ([]) rfl rfl (fun _ => rfl) (by decide) (by decide) 0 rfl rfl rfl hl.1 rfl (Nat.le_of_ble_eq_true rfl) ⟨Nat.zero_le _, Nat.zero_le _⟩ dX4_runsOne_101 (fun r_80 _ H locs hw_79 hP hD hS => ?_)
                try dsimp only at hw_79 hP hD
                obtain rfl : r_80 = (bI (dgB tex tl (((nm tex tl (a + 1)).2) + 1))) := hw_79
                refine lv_if_ne (tgt := 109) hx hb dX4_runsOne_104 (by decide) (fun c104 => ?_) (fun c104 => ?_)
                · skip
                  replace c104 : ¬ (bI (dgB tex tl (((nm tex tl (a + 1)).2) + 1))) = nI 0 := c104
                  refine lv_aload_n hx hb dX4_runsOne_109 rfl (lv_at hl 4 rfl) ?_
                  refine cl_Vi (b := (h 0)) (As := []) (rest := []) (wc := MW h cI now past pasts bef tri tex (nI tl) (nI (((nm tex tl (a + 1)).2) + 1))) (wsN := fun (_ : Unit) => MW h cI now past pasts bef tri tex (nI tl) (nI ((nm tex tl (((nm tex tl (a + 1)).2) + 1)).2))) F hK hA hP hD hS (c_X4_number htl (bI_ct c104)) (cwV 0 hts gX4_runsOne_X4_number rfl rfl rfl (by decide +kernel) ⟨Nat.le_of_ble_eq_true rfl, Nat.le_of_ble_eq_true rfl⟩) [0, 1, 2, 3, 4, 5] [] [0, 1, 2, 3, 4, 5] ([]) rfl rfl (fun _ => rfl) (by decide) (by decide) 0 rfl rfl rfl hl.1 rfl (Nat.le_of_ble_eq_true rfl) ⟨Nat.zero_le _, Nat.zero_le _⟩ dX4_runsOne_110 (fun r_82 _ H locs hw_81 hP hD hS => ?_)
                  try dsimp only at hw_81 hP hD
                  obtain rfl : r_82 = (nI ((nm tex tl (((nm tex tl (a + 1)).2) + 1)).1)) := hw_81
                  have hnmc104 := nm_in (bI_ct c104)
                  obtain ⟨hduc104, hdvc104, hdwc104⟩ := dg_of (bI_ct c104)
                  refine lv_istore (lv' := [(4, .int (nI ((nm tex tl (((nm tex tl (a + 1)).2) + 1)).1))), (3, .int (nI ((nm tex tl (a + 1)).1))), (2, .int (nI a)), (1, .int (nI k)), (0, .ref (h 0))]) hx hb dX4_runsOne_113 hl (by decide) rfl (fun ls hl => ?_)
                  refine lv_aload_n hx hb dX4_runsOne_115 rfl (lv_at hl 4 rfl) ?_
                  refine lv_aload_n hx hb dX4_runsOne_116 rfl (lv_at hl 4 rfl) ?_
                  refine va_get (D := D) (ci := 4) (v := .int (nI ((nm tex tl (((nm tex tl (a + 1)).2) + 1)).2))) (C := RX4) (T := TX4) (N := 8) hx hb hts hI4 hown hK.1 hP 0 rfl rfl 7 (by decide) lk105 (fun _ h9 => h9) rfl dX4_runsOne_117 ?_
                  refine cl_Vi (b := (h 0)) (As := [.int (nI ((nm tex tl (((nm tex tl (a + 1)).2) + 1)).2))]) (rest := []) (wc := MW h cI now past pasts bef tri tex (nI tl) (nI ((nm tex tl (((nm tex tl (a + 1)).2) + 1)).2))) (wsN := fun (_ : Unit) => MW h cI now past pasts bef tri tex (nI tl) (nI ((nm tex tl (((nm tex tl (a + 1)).2) + 1)).2))) F hK hA hP hD hS (c_X4_signAt htl (by omega)) (cwV 1 hts gX4_runsOne_X4_signAt rfl rfl rfl (by decide +kernel) ⟨Nat.le_of_ble_eq_true rfl, Nat.le_of_ble_eq_true rfl⟩) [0, 1, 2, 3, 4, 5] [] [0, 1, 2, 3, 4, 5] ([]) rfl rfl (fun _ => rfl) (by decide) (by decide) 0 rfl rfl rfl hl.1 rfl (Nat.le_of_ble_eq_true rfl) ⟨Nat.zero_le _, Nat.zero_le _⟩ dX4_runsOne_120 (fun r_84 _ H locs hw_83 hP hD hS => ?_)
                  try dsimp only at hw_83 hP hD
                  obtain rfl : r_84 = (sg tex tl ((nm tex tl (((nm tex tl (a + 1)).2) + 1)).2)) := hw_83
                  refine lv_bipush (v := (nI 59)) hx hb dX4_runsOne_123 (by decide) ?_
                  refine lv_icmp_eq (tgt := 130) hx hb dX4_runsOne_125 (by decide) (fun c125 => ?_) (fun c125 => ?_)
                  · skip
                    refine lv_aload_n hx hb dX4_runsOne_130 rfl (lv_at hl 4 rfl) ?_
                    refine lv_iload_n hx hb dX4_runsOne_131 rfl (lv_at hl 3 rfl) ?_
                    refine lv_iload_n hx hb dX4_runsOne_132 rfl (lv_at hl 1 rfl) ?_
                    refine lv_iload hx hb dX4_runsOne_133 (lv_at hl 0 rfl) ?_
                    refine cl_Vi (b := (h 0)) (As := [.int (nI k), .int (nI ((nm tex tl (a + 1)).1)), .int (nI ((nm tex tl (((nm tex tl (a + 1)).2) + 1)).1))]) (rest := []) (wc := MW h cI now past pasts bef tri tex (nI tl) (nI ((nm tex tl (((nm tex tl (a + 1)).2) + 1)).2))) (wsN := fun (u1 : Nat → Int32) => MW h cI u1 past pasts bef tri tex (nI tl) (nI ((nm tex tl (((nm tex tl (a + 1)).2) + 1)).2))) F hK hA hP hD hS (c_X4_does (by omega) hB) (cwV 3 hts gX4_runsOne_X4_does rfl rfl rfl (by decide +kernel) ⟨Nat.le_of_ble_eq_true rfl, Nat.le_of_ble_eq_true rfl⟩) [0, 1, 2, 3, 4, 5] [] [0, 1, 2, 3, 4, 5] ([]) rfl rfl (fun _ => rfl) (by decide) (by decide) 0 rfl rfl rfl hl.1 rfl (Nat.le_of_ble_eq_true rfl) ⟨Nat.zero_le _, Nat.zero_le _⟩ dX4_runsOne_135 (fun r1 u1 H locs hw_85 hP hD hS => ?_)
                    try dsimp only at hw_85 hP hD
                    obtain ⟨rfl, rfl⟩ := hw_85
                    have hP : va_P D vwCl (MW h cI ((doA now k (nI ((nm tex tl (a + 1)).1)) (nI ((nm tex tl (((nm tex tl (a + 1)).2) + 1)).1))).2) past pasts bef tri tex (nI tl) (nI ((nm tex tl (((nm tex tl (a + 1)).2) + 1)).2))) H := hP
                    have hD : va_D A0 (MW h cI ((doA now k (nI ((nm tex tl (a + 1)).1)) (nI ((nm tex tl (((nm tex tl (a + 1)).2) + 1)).1))).2) past pasts bef tri tex (nI tl) (nI ((nm tex tl (((nm tex tl (a + 1)).2) + 1)).2))) := hD
                    refine lv_if_lt (tgt := 145) hx hb dX4_runsOne_138 (by decide) (fun c138 => ?_) (fun c138 => ?_)
                    · skip
                      refine lv_iconst (v := (nI 0)) hx hb dX4_runsOne_145 (by decide) ?_
                      refine lv_istore (lv' := [(5, .int (nI 0)), (4, .int (nI ((nm tex tl (((nm tex tl (a + 1)).2) + 1)).1))), (3, .int (nI ((nm tex tl (a + 1)).1))), (2, .int (nI a)), (1, .int (nI k)), (0, .ref (h 0))]) hx hb dX4_runsOne_146 hl (by decide) rfl (fun ls hl => ?_)
                      refine lv_aload_n hx hb dX4_runsOne_148 rfl (lv_at hl 5 rfl) ?_
                      refine lv_iload hx hb dX4_runsOne_149 (lv_at hl 0 rfl) ?_
                      refine lv_if_eq (tgt := 163) hx hb dX4_runsOne_151 (by decide) (fun c151 => ?_) (fun c151 => ?_)
                      · skip
                        refine lv_iload_n hx hb dX4_runsOne_163 rfl (lv_at hl 3 rfl) ?_
                        refine va_put (D := D) (ci := 4) (v := .int (nI a)) (ty := .int) (C := RX4) (T := TX4) (N := 8) hx hb hts hI4 tyX4 tyX4_ok nmX4 hown hK.1 hP hD hS 0 rfl rfl 7 (by decide) lk105 (fun _ h9 => h9) rfl (by decide +kernel) rfl rfl (Nat.le_of_ble_eq_true rfl) dX4_runsOne_164 (fun H locs hP hD hS => ?_)
                        have hP : va_P D vwCl (MW h cI ((doA now k (nI ((nm tex tl (a + 1)).1)) (nI ((nm tex tl (((nm tex tl (a + 1)).2) + 1)).1))).2) past pasts bef tri tex (nI tl) (nI a)) H := hP
                        have hD : va_D A0 (MW h cI ((doA now k (nI ((nm tex tl (a + 1)).1)) (nI ((nm tex tl (((nm tex tl (a + 1)).2) + 1)).1))).2) past pasts bef tri tex (nI tl) (nI a)) := hD
                        refine lv_iload hx hb dX4_runsOne_167 (lv_at hl 0 rfl) ?_
                        have e : ro now tex tl a = (false, a, (doA now k (nI ((nm tex tl (a + 1)).1)) (nI ((nm tex tl (((nm tex tl (a + 1)).2) + 1)).1))).2) := by rw [ro_k (bI_ct c18) hk (by omega), roL_2 c38 (bI_ct c58), roF_2 c74 c87 (bI_ct c104), roE_2 c125 c138]
                        have hP : va_P D vwCl (MW h cI (ro now tex tl a).2.2 past pasts bef tri tex (nI tl) (nI (ro now tex tl a).2.1)) H := by rw [e]; exact hP
                        have hD : va_D A0 (MW h cI (ro now tex tl a).2.2 past pasts bef tri tex (nI tl) (nI (ro now tex tl a).2.1)) := by rw [e]; exact hD
                        exact RETN _ _ (nI 0) () _ _ dX4_runsOne_169 (rfl) (by rw [e]; rfl) hP hD hS
                      · skip
                        exfalso
                        exact absurd c151 (by decide)
                    · skip
                      refine lv_iconst (v := (nI 1)) hx hb dX4_runsOne_141 (by decide) ?_
                      refine lv_goto (tgt := 146) hx hb dX4_runsOne_142 (by decide) ?_
                      refine lv_istore (lv' := [(5, .int (nI 1)), (4, .int (nI ((nm tex tl (((nm tex tl (a + 1)).2) + 1)).1))), (3, .int (nI ((nm tex tl (a + 1)).1))), (2, .int (nI a)), (1, .int (nI k)), (0, .ref (h 0))]) hx hb dX4_runsOne_146 hl (by decide) rfl (fun ls hl => ?_)
                      refine lv_aload_n hx hb dX4_runsOne_148 rfl (lv_at hl 5 rfl) ?_
                      refine lv_iload hx hb dX4_runsOne_149 (lv_at hl 0 rfl) ?_
                      refine lv_if_eq (tgt := 163) hx hb dX4_runsOne_151 (by decide) (fun c151 => ?_) (fun c151 => ?_)
                      · skip
                        exfalso
                        exact absurd c151 (by decide)
                      · skip
                        refine lv_aload_n hx hb dX4_runsOne_154 rfl (lv_at hl 5 rfl) ?_
                        refine va_get (D := D) (ci := 4) (v := .int (nI ((nm tex tl (((nm tex tl (a + 1)).2) + 1)).2))) (C := RX4) (T := TX4) (N := 8) hx hb hts hI4 hown hK.1 hP 0 rfl rfl 7 (by decide) lk105 (fun _ h9 => h9) rfl dX4_runsOne_155 ?_
                        refine lv_iconst (v := (nI 1)) hx hb dX4_runsOne_158 (by decide) ?_
                        refine lv_iadd hx hb dX4_runsOne_159 ?_
                        refine n_as (x' := nI (((nm tex tl (((nm tex tl (a + 1)).2) + 1)).2) + 1)) (nI_add _ _) ?_
                        refine lv_goto (tgt := 164) hx hb dX4_runsOne_160 (by decide) ?_
                        refine va_put (D := D) (ci := 4) (v := .int (nI (((nm tex tl (((nm tex tl (a + 1)).2) + 1)).2) + 1))) (ty := .int) (C := RX4) (T := TX4) (N := 8) hx hb hts hI4 tyX4 tyX4_ok nmX4 hown hK.1 hP hD hS 0 rfl rfl 7 (by decide) lk105 (fun _ h9 => h9) rfl (by decide +kernel) rfl rfl (Nat.le_of_ble_eq_true rfl) dX4_runsOne_164 (fun H locs hP hD hS => ?_)
                        have hP : va_P D vwCl (MW h cI ((doA now k (nI ((nm tex tl (a + 1)).1)) (nI ((nm tex tl (((nm tex tl (a + 1)).2) + 1)).1))).2) past pasts bef tri tex (nI tl) (nI (((nm tex tl (((nm tex tl (a + 1)).2) + 1)).2) + 1))) H := hP
                        have hD : va_D A0 (MW h cI ((doA now k (nI ((nm tex tl (a + 1)).1)) (nI ((nm tex tl (((nm tex tl (a + 1)).2) + 1)).1))).2) past pasts bef tri tex (nI tl) (nI (((nm tex tl (((nm tex tl (a + 1)).2) + 1)).2) + 1))) := hD
                        refine lv_iload hx hb dX4_runsOne_167 (lv_at hl 0 rfl) ?_
                        have e : ro now tex tl a = (true, (((nm tex tl (((nm tex tl (a + 1)).2) + 1)).2) + 1), (doA now k (nI ((nm tex tl (a + 1)).1)) (nI ((nm tex tl (((nm tex tl (a + 1)).2) + 1)).1))).2) := by rw [ro_k (bI_ct c18) hk (by omega), roL_2 c38 (bI_ct c58), roF_2 c74 c87 (bI_ct c104), roE_3 c125 c138]
                        have hP : va_P D vwCl (MW h cI (ro now tex tl a).2.2 past pasts bef tri tex (nI tl) (nI (ro now tex tl a).2.1)) H := by rw [e]; exact hP
                        have hD : va_D A0 (MW h cI (ro now tex tl a).2.2 past pasts bef tri tex (nI tl) (nI (ro now tex tl a).2.1)) := by rw [e]; exact hD
                        exact RETN _ _ (nI 1) () _ _ dX4_runsOne_169 (rfl) (by rw [e]; rfl) hP hD hS
                  · skip
                    refine lv_iconst (v := (nI 0)) hx hb dX4_runsOne_128 (by decide) ?_
                    have e : ro now tex tl a = (false, (nm tex tl (((nm tex tl (a + 1)).2) + 1)).2, now) := by rw [ro_k (bI_ct c18) hk (by omega), roL_2 c38 (bI_ct c58), roF_2 c74 c87 (bI_ct c104), roE_1 c125]
                    have hP : va_P D vwCl (MW h cI (ro now tex tl a).2.2 past pasts bef tri tex (nI tl) (nI (ro now tex tl a).2.1)) H := by rw [e]; exact hP
                    have hD : va_D A0 (MW h cI (ro now tex tl a).2.2 past pasts bef tri tex (nI tl) (nI (ro now tex tl a).2.1)) := by rw [e]; exact hD
                    exact RETN _ _ (nI 0) () _ _ dX4_runsOne_129 (rfl) (by rw [e]; rfl) hP hD hS
                · skip
                  replace c104 : (bI (dgB tex tl (((nm tex tl (a + 1)).2) + 1))) = nI 0 := c104
                  refine lv_iconst (v := (nI 0)) hx hb dX4_runsOne_107 (by decide) ?_
                  have e : ro now tex tl a = (false, (((nm tex tl (a + 1)).2) + 1), now) := by rw [ro_k (bI_ct c18) hk (by omega), roL_2 c38 (bI_ct c58), roF_3 c74 c87 (bI_cf c104)]
                  have hP : va_P D vwCl (MW h cI (ro now tex tl a).2.2 past pasts bef tri tex (nI tl) (nI (ro now tex tl a).2.1)) H := by rw [e]; exact hP
                  have hD : va_D A0 (MW h cI (ro now tex tl a).2.2 past pasts bef tri tex (nI tl) (nI (ro now tex tl a).2.1)) := by rw [e]; exact hD
                  exact RETN _ _ (nI 0) () _ _ dX4_runsOne_108 (rfl) (by rw [e]; rfl) hP hD hS
          · skip
            replace c58 : (bI (dgB tex tl (a + 1))) = nI 0 := c58
            exfalso
            exact c51 c58
  · skip
    replace c18 : (bI (ltB (sg tex tl a))) = nI 0 := c18
    refine lv_iconst (v := (nI 0)) hx hb dX4_runsOne_21 (by decide) ?_
    have e : ro now tex tl a = (false, a, now) := ro_n (bI_cf c18)
    have hP : va_P D vwCl (MW h cI (ro now tex tl a).2.2 past pasts bef tri tex (nI tl) (nI (ro now tex tl a).2.1)) H := by rw [e]; exact hP
    have hD : va_D A0 (MW h cI (ro now tex tl a).2.2 past pasts bef tri tex (nI tl) (nI (ro now tex tl a).2.1)) := by rw [e]; exact hD
    exact RETN _ _ (nI 0) () _ _ dX4_runsOne_22 (rfl) (by rw [e]; rfl) hP hD hS
set_option maxHeartbeats 4000000 in
set_option maxRecDepth 100000 in
theorem c_X4_run {l : Launch} {D : va_G} {cI cG cC cR : ClassId} {h : Nat → Nat} {now past bef tri tex : Nat → Int32} {ati : Int32} {k tl : Nat} (hk : k ≤ 5) (htl : tl ≤ 80) (hB : BInv now) : CtI l yX4_run wsX4_run { frames := 8, cells := 0, slots := 0, locals := 184 } D (TY cI cG cC cR) [.ref (h 0)] (MW h cI now past (nI k) bef tri tex (nI tl) ati) (fun (u : (Nat → Int32) × Int32) => MW h cI (fnN now (rnA now tex tl).2 (rnA now tex tl).1) (fnP past k now (rnA now tex tl).1) (nI (fnK k (rnA now tex tl).1)) u.1 tri tex (nI tl) u.2) (fun (r : Int32) (u : (Nat → Int32) × Int32) => r = (rnA now tex tl).1) := by
  refine CtI.of (cc := cX4_run) (maxL := 2) (ty := .int) (by decide) rfl (Nat.le_of_ble_eq_true rfl) ?_
  intro P0 e0 s0 m0 a0 b0 t0 c0 A0 Q0 ls F hK hP hD hA RETN hl
  obtain ⟨hx, hb, hml, hown, hts⟩ := id F
  have hS : va_S A0 s0.heap s0.heap [] := va_S.rf
  have hl : lv_has ls 2 [(0, .ref (h 0))] := hl
  have lk102 := hts (.fieldLink RX4 102 "SlotMapsModel" "typed" "I") (by decide +kernel)
  have lk105 := hts (.fieldLink RX4 105 "SlotMapsModel" "at" "I") (by decide +kernel)
  have hI4 : ∀ w ∈ u_ws RX4 TX4 8, w ∈ wsX4_run := by decide +kernel
  refine lv_aload_n hx hb dX4_run_0 rfl (lv_at hl 0 rfl) ?_
  refine cl_Vv (b := (h 0)) (As := []) (rest := []) (wc := MW h cI now past (nI k) bef tri tex (nI tl) ati) (wsN := fun (_ : Unit) => MW h cI now past (nI k) now tri tex (nI tl) ati) F hK hA hP hD hS (c_X4_notes) (cwV 0 hts gX4_run_X4_notes rfl rfl rfl (by decide +kernel) ⟨Nat.le_of_ble_eq_true rfl, Nat.le_of_ble_eq_true rfl⟩) [0, 1, 2, 3, 4, 5] [] [0, 1, 2, 3, 4, 5] ([]) rfl rfl (fun _ => rfl) (by decide) (by decide) 0 rfl rfl rfl hl.1 rfl (Nat.le_of_ble_eq_true rfl) ⟨Nat.zero_le _, Nat.zero_le _⟩ dX4_run_1 (fun _ H locs hw_1 hP hD hS => ?_)
  try dsimp only at hw_1 hP hD
  refine lv_aload_n hx hb dX4_run_4 rfl (lv_at hl 0 rfl) ?_
  refine lv_iconst (v := (nI 0)) hx hb dX4_run_5 (by decide) ?_
  refine va_put (D := D) (ci := 4) (v := .int (nI 0)) (ty := .int) (C := RX4) (T := TX4) (N := 8) hx hb hts hI4 tyX4 tyX4_ok nmX4 hown hK.1 hP hD hS 0 rfl rfl 7 (by decide) lk105 (fun _ h9 => h9) rfl (by decide +kernel) rfl rfl (Nat.le_of_ble_eq_true rfl) dX4_run_6 (fun H locs hP hD hS => ?_)
  have hP : va_P D vwCl (MW h cI now past (nI k) now tri tex (nI tl) (nI 0)) H := hP
  have hD : va_D A0 (MW h cI now past (nI k) now tri tex (nI tl) (nI 0)) := hD
  refine lv_iconst (v := (nI 0)) hx hb dX4_run_9 (by decide) ?_
  refine lv_istore_n (lv' := [(1, .int (nI 0)), (0, .ref (h 0))]) hx hb dX4_run_10 rfl hl (by decide) rfl (fun ls hl => ?_)
  have LP11 : ∀ (nn : Nat) (a : Nat) (n : Nat) (j : Nat) (g : Nat → Int32) (H : Heap) (locs : List Loc) (ls : Array Slot), a ≤ tl → tl - a ≤ j → BInv g → rnA now tex tl = rnG tex tl j a n g → tl - a < nn → va_P D vwCl (MW h cI g past (nI k) now tri tex (nI tl) (nI a)) H → va_D A0 (MW h cI g past (nI k) now tri tex (nI tl) (nI a)) → va_S A0 s0.heap H locs → lv_has ls 2 [(1, .int (nI n)), (0, .ref (h 0))] → W P0 l e0 { frames := 8, cells := 0, slots := 0, locals := 184 } s0 m0 a0 b0 t0 c0 H locs 0 0 Q0 (F0 m0 11 ls []) := by
    intro nn
    induction nn with
    | zero => intro a n j g H locs ls ha hj hB2 hr hmu; exact absurd hmu (Nat.not_lt_zero _)
    | succ nn ih11 =>
      intro a n j g H locs ls ha hj hB2 hr hmu11 hP hD hS hl
      refine lv_aload_n hx hb dX4_run_11 rfl (lv_at hl 1 rfl) ?_
      refine va_get (D := D) (ci := 4) (v := .int (nI a)) (C := RX4) (T := TX4) (N := 8) hx hb hts hI4 hown hK.1 hP 0 rfl rfl 7 (by decide) lk105 (fun _ h9 => h9) rfl dX4_run_12 ?_
      refine lv_aload_n hx hb dX4_run_15 rfl (lv_at hl 1 rfl) ?_
      refine va_get (D := D) (ci := 4) (v := .int (nI tl)) (C := RX4) (T := TX4) (N := 8) hx hb hts hI4 hown hK.1 hP 0 rfl rfl 6 (by decide) lk102 (fun _ h9 => h9) rfl dX4_run_16 ?_
      refine lv_icmp_ge (tgt := 48) hx hb dX4_run_19 (by decide) (fun c19 => ?_) (fun c19 => ?_)
      · skip
        replace c19 : tl ≤ a := by rw [nI_leI (by omega) (by omega)] at c19; exact c19
        have eA : rnA now tex tl = (nI n, g) := by rw [hr]; exact rnG_end (by omega)
        have hP : va_P D vwCl (MW h cI (rnA now tex tl).2 past (nI k) now tri tex (nI tl) (nI a)) H := by rw [eA]; exact hP
        have hD : va_D A0 (MW h cI (rnA now tex tl).2 past (nI k) now tri tex (nI tl) (nI a)) := by rw [eA]; exact hD
        refine lv_aload_n hx hb dX4_run_48 rfl (lv_at hl 1 rfl) ?_
        refine lv_iload_n hx hb dX4_run_49 rfl (lv_at hl 0 rfl) ?_
        refine n_as (x' := ((rnA now tex tl).1)) (by rw [eA]) ?_
        refine cl_Vi (b := (h 0)) (As := [.int ((rnA now tex tl).1)]) (rest := []) (wc := MW h cI ((rnA now tex tl).2) past (nI k) now tri tex (nI tl) (nI a)) (wsN := fun (_ : Unit) => MW h cI (fnN now (rnA now tex tl).2 (rnA now tex tl).1) (fnP past k now (rnA now tex tl).1) (nI (fnK k (rnA now tex tl).1)) now tri tex (nI tl) (nI a)) F hK hA hP hD hS (c_X4_ends hk) (cwV 1 hts gX4_run_X4_ends rfl rfl rfl (by decide +kernel) ⟨Nat.le_of_ble_eq_true rfl, Nat.le_of_ble_eq_true rfl⟩) [0, 1, 2, 3, 4, 5] [] [0, 1, 2, 3, 4, 5] ([]) rfl rfl (fun _ => rfl) (by decide) (by decide) 0 rfl rfl rfl hl.1 rfl (Nat.le_of_ble_eq_true rfl) ⟨Nat.zero_le _, Nat.zero_le _⟩ dX4_run_50 (fun r_4 _ H locs hw_3 hP hD hS => ?_)
        try dsimp only at hw_3 hP hD
        obtain rfl : r_4 = ((rnA now tex tl).1) := hw_3
        exact RETN _ _ ((rnA now tex tl).1) (now, nI a) _ _ dX4_run_53 (rfl) (rfl) hP hD hS
      · skip
        replace c19 : ¬ (tl ≤ a) := by rw [nI_leI (by omega) (by omega)] at c19; exact c19
        refine lv_aload_n hx hb dX4_run_22 rfl (lv_at hl 1 rfl) ?_
        refine cl_Vi (b := (h 0)) (As := []) (rest := []) (wc := MW h cI g past (nI k) now tri tex (nI tl) (nI a)) (wsN := fun (_ : Unit) => MW h cI ((ro g tex tl a).2.2) past (nI k) now tri tex (nI tl) (nI ((ro g tex tl a).2.1))) F hK hA hP hD hS (c_X4_runsOne htl (by omega) hB2) (cwV 0 hts gX4_run_X4_runsOne rfl rfl rfl (by decide +kernel) ⟨Nat.le_of_ble_eq_true rfl, Nat.le_of_ble_eq_true rfl⟩) [0, 1, 2, 3, 4, 5] [] [0, 1, 2, 3, 4, 5] ([]) rfl rfl (fun _ => rfl) (by decide) (by decide) 0 rfl rfl rfl hl.1 rfl (Nat.le_of_ble_eq_true rfl) ⟨Nat.zero_le _, Nat.zero_le _⟩ dX4_run_23 (fun r_6 _ H locs hw_5 hP hD hS => ?_)
        try dsimp only at hw_5 hP hD
        obtain rfl : r_6 = (bI (ro g tex tl a).1) := hw_5
        obtain ⟨hB3, hin⟩ := ro_in (t := tex) (tl := tl) (a := a) hB2
        refine lv_if_ne (tgt := 42) hx hb dX4_run_26 (by decide) (fun c26 => ?_) (fun c26 => ?_)
        · skip
          replace c26 : ¬ (bI (ro g tex tl a).1) = nI 0 := c26
          have hin2 := hin (bI_ct c26)
          refine lv_iinc (v := (nI (n + 1))) (lv' := [(1, .int (nI (n + 1))), (0, .ref (h 0))]) hx hb dX4_run_42 hl (k := 0) rfl (n_inc1 _) (by decide) rfl (fun ls hl => ?_)
          refine lv_goto (tgt := 11) hx hb dX4_run_45 (by decide) ?_
          exact ih11 ((ro g tex tl a).2.1) (n + 1) (j - 1) ((ro g tex tl a).2.2) _ _ _ (by omega) (by omega) (hB3) (by rw [hr]; exact rnG_go (by omega) hj (bI_ct c26)) (by omega) hP hD hS (lv_sub hl [0, 1] rfl)
        · skip
          replace c26 : (bI (ro g tex tl a).1) = nI 0 := c26
          have eA : rnA now tex tl = ((-1000) - nI (ro g tex tl a).2.1, (ro g tex tl a).2.2) := by rw [hr]; exact rnG_no (by omega) hj (bI_cf c26)
          have hP : va_P D vwCl (MW h cI (rnA now tex tl).2 past (nI k) now tri tex (nI tl) (nI (ro g tex tl a).2.1)) H := by rw [eA]; exact hP
          have hD : va_D A0 (MW h cI (rnA now tex tl).2 past (nI k) now tri tex (nI tl) (nI (ro g tex tl a).2.1)) := by rw [eA]; exact hD
          refine lv_aload_n hx hb dX4_run_29 rfl (lv_at hl 1 rfl) ?_
          refine lv_sipush (v := (-1000)) hx hb dX4_run_30 (by decide) ?_
          refine lv_aload_n hx hb dX4_run_33 rfl (lv_at hl 1 rfl) ?_
          refine va_get (D := D) (ci := 4) (v := .int (nI ((ro g tex tl a).2.1))) (C := RX4) (T := TX4) (N := 8) hx hb hts hI4 hown hK.1 hP 0 rfl rfl 7 (by decide) lk105 (fun _ h9 => h9) rfl dX4_run_34 ?_
          refine lv_isub hx hb dX4_run_37 ?_
          refine n_as (x' := ((rnA now tex tl).1)) (by rw [eA]) ?_
          refine cl_Vi (b := (h 0)) (As := [.int ((rnA now tex tl).1)]) (rest := []) (wc := MW h cI ((rnA now tex tl).2) past (nI k) now tri tex (nI tl) (nI ((ro g tex tl a).2.1))) (wsN := fun (_ : Unit) => MW h cI (fnN now (rnA now tex tl).2 (rnA now tex tl).1) (fnP past k now (rnA now tex tl).1) (nI (fnK k (rnA now tex tl).1)) now tri tex (nI tl) (nI ((ro g tex tl a).2.1))) F hK hA hP hD hS (c_X4_ends hk) (cwV 1 hts gX4_run_X4_ends rfl rfl rfl (by decide +kernel) ⟨Nat.le_of_ble_eq_true rfl, Nat.le_of_ble_eq_true rfl⟩) [0, 1, 2, 3, 4, 5] [] [0, 1, 2, 3, 4, 5] ([]) rfl rfl (fun _ => rfl) (by decide) (by decide) 0 rfl rfl rfl hl.1 rfl (Nat.le_of_ble_eq_true rfl) ⟨Nat.zero_le _, Nat.zero_le _⟩ dX4_run_38 (fun r_8 _ H locs hw_7 hP hD hS => ?_)
          try dsimp only at hw_7 hP hD
          obtain rfl : r_8 = ((rnA now tex tl).1) := hw_7
          exact RETN _ _ ((rnA now tex tl).1) (now, nI ((ro g tex tl a).2.1)) _ _ dX4_run_41 (rfl) (rfl) hP hD hS
  exact LP11 _ 0 0 81 now _ _ _ (by omega) (by omega) (hB) (rfl) (Nat.lt_succ_self _) hP hD hS (lv_sub hl [0, 1] rfl)
