/-! the reference's actions: each as an answer and the slots behind it -/
theorem fn_neg {b g p : Nat → Int32} {k : Nat} {a : Int32} (h : a < 0) : fnN b g a = b ∧ fnP p k b a = p ∧ fnK k a = k := ⟨if_pos h, if_pos h, if_pos h⟩
theorem fn_n1 (b g p : Nat → Int32) (k : Nat) : fnN b g (-1) = b ∧ fnP p k b (-1) = p ∧ fnK k (-1) = k := fn_neg (by decide)
theorem fn_n3 (b g p : Nat → Int32) (k : Nat) : fnN b g (-3) = b ∧ fnP p k b (-3) = p ∧ fnK k (-3) = k := fn_neg (by decide)
def tkA (f : Nat → Int32) : Int32 × (Nat → Int32) := (o3 (tk f).1, (tk f).2)
/-- the slots from p on, n of them -/
def rg (p n : Nat) : Nat → Bool := fun j => decide (p ≤ j) && decide (j < p + n)
theorem rg_0 (p j : Nat) : rg p 0 j = false := by unfold rg; simp <;> omega
theorem rg_s (p n j : Nat) : rg p (n + 1) j = (rg p n j || decide (j = p + n)) := by
  unfold rg
  rw [Bool.eq_iff_iff]
  simp only [Bool.and_eq_true, Bool.or_eq_true, decide_eq_true_eq]
  omega
theorem rg_iff {p n j : Nat} : rg p n j = true ↔ p ≤ j ∧ j < p + n := by unfold rg; simp
def trP (f : Nat → Int32) (s m n : Nat) : Nat → Int32 := bec (upd f 666 (f 666 + nI ((s + m - 1) / 32 + 1))) (rg s n) (fun _ => nI 1)
def trF (f : Nat → Int32) (s m : Nat) : Nat → Int32 := trP f s m m
theorem tr_0 (f : Nat → Int32) (s m : Nat) : upd f 666 (f 666 + nI ((s + m - 1) / 32 + 1)) = trP f s m 0 := (bec_none (fun j _ => rg_0 s j)).symm
theorem tr_s {f g : Nat → Int32} {s m n : Nat} (hg : g = trP f s m n) (h : s + n < 320) : bc1 g (s + n) (nI 1) = trP f s m (n + 1) := by
  rw [hg]
  exact bec_add h rfl (fun j _ => rg_s s n j)
def trA (f : Nat → Int32) (v : Int32) : Int32 × (Nat → Int32) := if inB v (nI 1) (nI 64) = true then (match rn f v.toNatClampNeg 320 0 0 with
  | some s => (nI s, trF f s v.toNatClampNeg)
  | none => (-3, f)) else (-1, f)
theorem trA_n {f : Nat → Int32} {v : Int32} (h : inB v (nI 1) (nI 64) = false) : trA f v = (-1, f) := by unfold trA; rw [h]; rfl
theorem trA_0 {f : Nat → Int32} {m : Nat} (h1 : 1 ≤ m) (h2 : m ≤ 64) (h : rn f m 320 0 0 = none) : trA f (nI m) = (-3, f) := by
  unfold trA
  rw [inB_of (by omega) h1 h2, nI_clamp (by omega), h]
  rfl
theorem trA_s {f : Nat → Int32} {m s : Nat} (h1 : 1 ≤ m) (h2 : m ≤ 64) (h : rn f m 320 0 0 = some s) : trA f (nI m) = (nI s, trF f s m) := by
  unfold trA
  rw [inB_of (by omega) h1 h2, nI_clamp (by omega), h]
  rfl
theorem rn_in {f : Nat → Int32} {m : Nat} (hm : 1 ≤ m) : ∀ {k sl n s : Nat}, n ≤ sl → n < m → (∀ j, sl - n ≤ j → j < sl → f j = nI 0) → rn f m k sl n = some s → s + m ≤ sl + k ∧ ∀ j, s ≤ j → j < s + m → f j = nI 0
  | 0, _, _, _, _, _, _, h => by cases h
  | k + 1, sl, n, s, hn, hnm, hf, h => by
    rw [rn] at h
    by_cases c : f sl = nI 0
    · rw [if_pos c] at h
      have hf2 : ∀ j, sl - n ≤ j → j < sl + 1 → f j = nI 0 := fun j h1 h2 => by
        by_cases e : j = sl
        · rw [e]; exact c
        · exact hf j h1 (by omega)
      by_cases e : n + 1 = m
      · rw [if_pos e] at h
        cases h
        exact ⟨by omega, fun j h1 h2 => hf2 j (by omega) (by omega)⟩
      · rw [if_neg e] at h
        obtain ⟨h3, h4⟩ := rn_in hm (by omega) (by omega) (fun j h1 h2 => hf2 j (by omega) h2) h
        exact ⟨by omega, h4⟩
    · rw [if_neg c, if_neg (by omega)] at h
      obtain ⟨h3, h4⟩ := rn_in hm (Nat.zero_le _) (by omega) (fun j h1 h2 => absurd h1 (by omega)) h
      exact ⟨by omega, h4⟩
theorem rn_ok {f : Nat → Int32} {m s : Nat} (hm : 1 ≤ m) (h : rn f m 320 0 0 = some s) : s + m ≤ 320 ∧ ∀ j, s ≤ j → j < s + m → f j = nI 0 := by
  obtain ⟨h1, h2⟩ := rn_in hm (Nat.le_refl _) (by omega) (fun j h1 h2 => absurd h2 (by omega)) h
  exact ⟨by omega, h2⟩
/-- slots given back -/
def gbP (f : Nat → Int32) (a n : Nat) : Nat → Bool := fun j => rg a n j && decide (f j = nI 1)
def gbv (f : Nat → Int32) : Nat → Int32 := fun j => if 0 < f (320 + j) then nI 3 else nI 2
def gbF (f : Nat → Int32) (a n : Nat) : Nat → Int32 := bec f (gbP f a n) (gbv f)
def gbN (f : Nat → Int32) (a n : Nat) : Nat := fb_ct (fun i => decide (f (a + i) = nI 1)) n
theorem gb_0 (f : Nat → Int32) (a : Nat) : f = gbF f a 0 := (bec_none (fun j _ => by unfold gbP; rw [rg_0]; rfl)).symm
theorem gb_slot {f g : Nat → Int32} {a n : Nat} (hg : g = gbF f a n) (h : a + n < 320) : g (a + n) = f (a + n) := by
  rw [hg]
  exact bec_slot_n h (by unfold gbP rg; simp)
theorem gb_own {f g : Nat → Int32} {a n j : Nat} (hg : g = gbF f a n) (h : j < 320) : g (320 + j) = f (320 + j) := by
  rw [hg]
  exact bec_own (by omega) (by omega)
theorem gb_skip {f g : Nat → Int32} {a n : Nat} (hg : g = gbF f a n) (h : ¬ f (a + n) = nI 1) : g = gbF f a (n + 1) := by
  rw [hg]
  refine bec_cong (fun j hj => ?_) (fun _ _ _ => rfl)
  unfold gbP
  rw [rg_s]
  by_cases e : j = a + n
  · rw [e]; simp [h]
  · simp [e]
theorem gb_take {f g : Nat → Int32} {a n : Nat} {x : Int32} (hg : g = gbF f a n) (hs : a + n < 320) (h : f (a + n) = nI 1) (hx : gbv f (a + n) = x) : bc1 g (a + n) x = gbF f a (n + 1) := by
  rw [hg]
  refine bec_add hs hx (fun j hj => ?_)
  unfold gbP
  rw [rg_s]
  by_cases e : j = a + n
  · rw [e]; simp [h]
  · simp [e]
def gbA (f : Nat → Int32) (a b : Int32) : Int32 × (Nat → Int32) := if (inB a (nI 0) (nI 319) && inB b a (nI 319)) = true then (if gbN f a.toNatClampNeg (b.toNatClampNeg + 1 - a.toNatClampNeg) = 0 then -2 else nI (gbN f a.toNatClampNeg (b.toNatClampNeg + 1 - a.toNatClampNeg)), gbF f a.toNatClampNeg (b.toNatClampNeg + 1 - a.toNatClampNeg)) else (-1, f)
theorem gbA_n {f : Nat → Int32} {a b : Int32} (h : inB a (nI 0) (nI 319) = false ∨ inB b a (nI 319) = false) : gbA f a b = (-1, f) := by
  unfold gbA
  rcases h with h | h <;> simp [h]
theorem gbA_s {f : Nat → Int32} {a n : Nat} (h : a + n ≤ 320) (h1 : 1 ≤ n) : gbA f (nI a) (nI (a + n - 1)) = (if gbN f a n = 0 then -2 else nI (gbN f a n), gbF f a n) := by
  unfold gbA
  rw [inB_of (by omega) (by omega) (by omega), inB_of (by omega) (by omega) (by omega), nI_clamp (by omega), nI_clamp (by omega), show a + n - 1 + 1 - a = n by omega]
  rfl
def clA (f : Nat → Int32) (v : Int32) : Int32 × (Nat → Int32) := if inB v (nI 1) (nI 10) = true then (nI (clN f v.toNatClampNeg), clF f v.toNatClampNeg) else (-1, f)
theorem clA_n {f : Nat → Int32} {v : Int32} (h : inB v (nI 1) (nI 10) = false) : clA f v = (-1, f) := by unfold clA; rw [h]; rfl
theorem clA_s {f : Nat → Int32} {n : Nat} (h1 : 1 ≤ n) (h2 : n ≤ 10) : clA f (nI n) = (nI (clN f n), clF f n) := by
  unfold clA
  rw [inB_of (by omega) h1 h2, nI_clamp (by omega)]
  rfl
/-- whether there is a block of this number -/
def isB (f : Nat → Int32) (b : Int32) : Bool := inB b (nI 0) (nI 7) && decide (0 < f (650 + 2 * b.toNatClampNeg + 1))
theorem isB_n {f : Nat → Int32} {b : Int32} (h : inB b (nI 0) (nI 7) = false) : isB f b = false := by unfold isB; rw [h]; rfl
theorem isB_k {f : Nat → Int32} {k : Nat} (h : k ≤ 7) : isB f (nI k) = decide (0 < f (650 + 2 * k + 1)) := by
  unfold isB
  rw [inB_of (by omega) (Nat.zero_le _) h, nI_clamp (by omega)]
  rfl
theorem isB_8 {f : Nat → Int32} : isB f (nI 8) = false := isB_n (by decide)
theorem isB_t {f : Nat → Int32} {b : Int32} (h : isB f b = true) : ∃ k, k ≤ 7 ∧ b = nI k ∧ 0 < f (650 + 2 * k + 1) := by
  have h2 := h
  unfold isB at h
  rw [Bool.and_eq_true] at h
  obtain ⟨k, -, h3, rfl⟩ := inB_nat (by omega) (by omega) h.1
  rw [isB_k h3] at h2
  exact ⟨k, h3, rfl, of_decide_eq_true h2⟩
def szB (v : Int32) : Bool := decide (v = nI 4) || decide (v = nI 8) || decide (v = nI 16) || decide (v = nI 32)
def okz (z : Nat) : Prop := z = 4 ∨ z = 8 ∨ z = 16 ∨ z = 32
theorem szB_t {v : Int32} (h : szB v = true) : ∃ z, v = nI z ∧ okz z := by
  unfold szB at h
  simp only [Bool.or_eq_true, decide_eq_true_eq] at h
  rcases h with ((h | h) | h) | h
  · exact ⟨4, h, Or.inl rfl⟩
  · exact ⟨8, h, Or.inr (Or.inl rfl)⟩
  · exact ⟨16, h, Or.inr (Or.inr (Or.inl rfl))⟩
  · exact ⟨32, h, Or.inr (Or.inr (Or.inr rfl))⟩
theorem szB_of {z : Nat} (h : okz z) : szB (nI z) = true := by rcases h with rfl | rfl | rfl | rfl <;> decide
theorem okz_le {z : Nat} (h : okz z) : 4 ≤ z ∧ z ≤ 32 := by rcases h with rfl | rfl | rfl | rfl <;> omega
/-- the first place of a block -/
def plq (f : Nat → Int32) (z q : Nat) : Bool := decide (fb_ct (fun i => fr f (z * q + i)) z = z)
def pl (f : Nat → Int32) (z : Nat) : Option Nat := (ls1 (plq f z) (320 / z) 0).map (fun q => z * q)
theorem pl_ok {f : Nat → Int32} {z p : Nat} (hz : okz z) (h : pl f z = some p) : p + z ≤ 320 ∧ p % z = 0 ∧ ∀ j, p ≤ j → j < p + z → f j = nI 0 := by
  unfold pl at h
  rw [Option.map_eq_some_iff] at h
  obtain ⟨q, h1, rfl⟩ := h
  obtain ⟨-, h2, h3, -⟩ := ls1_some h1
  have h4 := of_decide_eq_true h3
  rw [fb_ct_all] at h4
  refine ⟨by rcases hz with rfl | rfl | rfl | rfl <;> omega, Nat.mul_mod_right _ _, fun j h5 h6 => ?_⟩
  have h7 := h4 (j - z * q) (by omega)
  rw [show z * q + (j - z * q) = j by omega] at h7
  exact of_decide_eq_true h7
/-- the first number that no block has -/
def ub (f : Nat → Int32) : Option Nat := ls1 (fun k => decide (¬ 0 < f (650 + 2 * k + 1))) 8 0
def blk (f : Nat → Int32) (b p z : Nat) : Nat → Int32 := upd (upd f (650 + 2 * b) (nI p)) (650 + 2 * b + 1) (nI z)
/-- the owners of the slots from p on, n of them -/
def ow (f : Nat → Int32) (p n : Nat) (x : Int32) : Nat → Int32 := fun j => if 320 + p ≤ j ∧ j < 320 + p + n then x else f j
theorem ow_0 (f : Nat → Int32) (p : Nat) (x : Int32) : ow f p 0 x = f := by
  funext j
  unfold ow
  rw [if_neg (by omega)]
theorem ow_s (f : Nat → Int32) (p n : Nat) (x : Int32) : upd (ow f p n x) (320 + (p + n)) x = ow f p (n + 1) x := by
  funext j
  unfold ow upd
  by_cases e : j = 320 + (p + n)
  · rw [if_pos e, if_pos (by omega)]
  · rw [if_neg e]
    show (if 320 + p ≤ j ∧ j < 320 + p + n then x else f j) = _
    by_cases e2 : 320 + p ≤ j ∧ j < 320 + p + n
    · rw [if_pos e2, if_pos (by omega)]
    · rw [if_neg e2, if_neg (by omega)]
theorem upd_bec {f : Nat → Int32} {P : Nat → Bool} {v : Nat → Int32} {j : Nat} {x : Int32} (h : 320 ≤ j) (h2 : j < 640 ∨ 650 ≤ j) : upd (bec f P v) j x = bec (upd f j x) P v := by
  have hs : ∀ i, i < 320 → upd f j x i = f i := fun i hi => upd_n _ _ (by omega)
  have hc : ∀ i, i < 320 → chg f P v i = chg (upd f j x) P v i := fun i hi => by rw [chg_slot hi, chg_slot hi, hs i hi]
  funext i
  by_cases e : i = j
  · rw [e, upd_s, bec_own h h2, upd_s]
  · rw [upd_n _ _ e]
    by_cases h3 : i < 320
    · rw [bec_slot h3, bec_slot h3, hs i h3]
    · by_cases hb : 640 ≤ i ∧ i < 650
      · obtain ⟨k, rfl, hk⟩ : ∃ k, i = 640 + k ∧ k < 10 := ⟨i - 640, by omega, by omega⟩
        rw [bec_bit hk, bec_bit hk, upd_n _ _ e, rt_cong (fun i hi => hc _ (by omega))]
      · rw [bec_own (by omega) (by omega), bec_own (by omega) (by omega), upd_n _ _ e]
def rsF (f : Nat → Int32) (b p n : Nat) : Nat → Int32 := bec (ow f p n (nI (b + 1))) (rg p n) (fun _ => nI 3)
theorem rs_0 (f : Nat → Int32) (b p : Nat) : f = rsF f b p 0 := by
  unfold rsF
  rw [ow_0, bec_none (fun j _ => rg_0 p j)]
theorem rs_s {f g : Nat → Int32} {b p n : Nat} (hg : g = rsF f b p n) (h : p + n < 320) : bc1 (upd g (320 + (p + n)) (nI (b + 1))) (p + n) (nI 3) = rsF f b p (n + 1) := by
  rw [hg]
  unfold rsF
  rw [upd_bec (by omega) (by omega), ow_s]
  exact bec_add h rfl (fun j _ => rg_s p n j)
def rsA (f : Nat → Int32) (v : Int32) : Int32 × (Nat → Int32) := if szB v = true then (match ub f, pl f v.toNatClampNeg with
  | some b, some p => (nI b, rsF (blk f b p v.toNatClampNeg) b p v.toNatClampNeg)
  | _, _ => (-3, f)) else (-1, f)
theorem rsA_n {f : Nat → Int32} {v : Int32} (h : szB v = false) : rsA f v = (-1, f) := by unfold rsA; rw [h]; rfl
theorem rsA_0 {f : Nat → Int32} {z : Nat} (hz : okz z) (h : ub f = none ∨ pl f z = none) : rsA f (nI z) = (-3, f) := by
  have := okz_le hz
  unfold rsA
  rw [szB_of hz, nI_clamp (by omega)]
  rcases h with h | h
  · rw [h]; rfl
  · rw [h]
    cases ub f <;> rfl
theorem rsA_s {f : Nat → Int32} {z b p : Nat} (hz : okz z) (h : ub f = some b) (h2 : pl f z = some p) : rsA f (nI z) = (nI b, rsF (blk f b p z) b p z) := by
  have := okz_le hz
  unfold rsA
  rw [szB_of hz, nI_clamp (by omega), h, h2]
  rfl
/-- the blocks lie in the map -/
def BInv (f : Nat → Int32) : Prop := ∀ k, k < 8 → 0 < f (650 + 2 * k + 1) → ∃ p z, f (650 + 2 * k) = nI p ∧ f (650 + 2 * k + 1) = nI z ∧ okz z ∧ p % z = 0 ∧ p + z ≤ 320
/-- the first kept slot of the n slots from p on -/
def kp (f : Nat → Int32) (p n : Nat) : Option Nat := ls1 (fun s => decide (f s = nI 3)) n p
def tiA (f : Nat → Int32) (b : Int32) : Int32 × (Nat → Int32) := if isB f b = true then (match kp f (f (650 + 2 * b.toNatClampNeg)).toNatClampNeg (f (650 + 2 * b.toNatClampNeg + 1)).toNatClampNeg with
  | some s => (nI s, bc1 f s (nI 1))
  | none => (-3, f)) else (-1, f)
theorem tiA_n {f : Nat → Int32} {b : Int32} (h : isB f b = false) : tiA f b = (-1, f) := by unfold tiA; rw [h]; rfl
theorem tiA_s {f : Nat → Int32} {k p z : Nat} (hk : k ≤ 7) (hb : isB f (nI k) = true) (h1 : f (650 + 2 * k) = nI p) (h2 : f (650 + 2 * k + 1) = nI z) (h3 : p + z ≤ 320) : tiA f (nI k) = (match kp f p z with
  | some s => (nI s, bc1 f s (nI 1))
  | none => (-3, f)) := by
  unfold tiA
  rw [hb, nI_clamp (by omega), h1, h2, nI_clamp (by omega), nI_clamp (by omega)]
  rfl
def guF (f : Nat → Int32) (p n : Nat) : Nat → Int32 := bec (ow f p n (nI 0)) (fun j => rg p n j && decide (f j = nI 3)) (fun _ => nI 0)
def guN (f : Nat → Int32) (p n : Nat) : Nat := fb_ct (fun i => decide (f (p + i) = nI 3)) n
theorem gu_0 (f : Nat → Int32) (p : Nat) : f = guF f p 0 := by
  unfold guF
  rw [ow_0, bec_none (fun j _ => by rw [rg_0]; rfl)]
theorem gu_slot {f g : Nat → Int32} {p n : Nat} (hg : g = guF f p n) (h : p + n < 320) : g (p + n) = f (p + n) := by
  rw [hg]
  unfold guF
  rw [bec_slot_n h (by unfold rg; simp)]
  unfold ow
  rw [if_neg (by omega)]
theorem gu_blk {f g : Nat → Int32} {p n j : Nat} (hg : g = guF f p n) (h : p + n ≤ 320) (hj : 650 ≤ j) : g j = f j := by
  rw [hg]
  unfold guF
  rw [bec_own (by omega) (by omega)]
  unfold ow
  rw [if_neg (by omega)]
theorem gu_skip {f g : Nat → Int32} {p n : Nat} (hg : g = guF f p n) (hs : p + n < 320) (h : ¬ f (p + n) = nI 3) : upd g (320 + (p + n)) (nI 0) = guF f p (n + 1) := by
  rw [hg]
  unfold guF
  rw [upd_bec (by omega) (by omega), ow_s]
  refine bec_cong (fun j hj => ?_) (fun _ _ _ => rfl)
  show (rg p n j && decide (f j = nI 3)) = (rg p (n + 1) j && decide (f j = nI 3))
  rw [rg_s]
  by_cases e : j = p + n
  · rw [e]; simp [h]
  · simp [e]
theorem gu_take {f g : Nat → Int32} {p n : Nat} (hg : g = guF f p n) (hs : p + n < 320) (h : f (p + n) = nI 3) : bc1 (upd g (320 + (p + n)) (nI 0)) (p + n) (nI 0) = guF f p (n + 1) := by
  rw [hg]
  unfold guF
  rw [upd_bec (by omega) (by omega), ow_s]
  refine bec_add hs rfl (fun j hj => ?_)
  show (rg p (n + 1) j && decide (f j = nI 3)) = ((rg p n j && decide (f j = nI 3)) || decide (j = p + n))
  rw [rg_s]
  by_cases e : j = p + n
  · rw [e]; simp [h]
  · simp [e]
def guA (f : Nat → Int32) (b : Int32) : Int32 × (Nat → Int32) := if isB f b = true then (nI (guN f (f (650 + 2 * b.toNatClampNeg)).toNatClampNeg (f (650 + 2 * b.toNatClampNeg + 1)).toNatClampNeg), upd (upd (guF f (f (650 + 2 * b.toNatClampNeg)).toNatClampNeg (f (650 + 2 * b.toNatClampNeg + 1)).toNatClampNeg) (650 + 2 * b.toNatClampNeg) (nI 0)) (650 + 2 * b.toNatClampNeg + 1) (nI 0)) else (-1, f)
theorem guA_n {f : Nat → Int32} {b : Int32} (h : isB f b = false) : guA f b = (-1, f) := by unfold guA; rw [h]; rfl
theorem guA_s {f : Nat → Int32} {k p z : Nat} (hk : k ≤ 7) (hb : isB f (nI k) = true) (h1 : f (650 + 2 * k) = nI p) (h2 : f (650 + 2 * k + 1) = nI z) (h3 : p + z ≤ 320) : guA f (nI k) = (nI (guN f p z), upd (upd (guF f p z) (650 + 2 * k) (nI 0)) (650 + 2 * k + 1) (nI 0)) := by
  unfold guA
  rw [hb, nI_clamp (by omega), h1, h2, nI_clamp (by omega), nI_clamp (by omega)]
  rfl
def dmA (f : Nat → Int32) (w : Int32) : Int32 × (Nat → Int32) := if inB w (nI 0) (nI 9) = true then (nI 1 - f (640 + w.toNatClampNeg), upd f (640 + w.toNatClampNeg) (nI 1 - f (640 + w.toNatClampNeg))) else (-1, f)
theorem dmA_n {f : Nat → Int32} {w : Int32} (h : inB w (nI 0) (nI 9) = false) : dmA f w = (-1, f) := by unfold dmA; rw [h]; rfl
theorem dmA_s {f : Nat → Int32} {w : Nat} (h : w ≤ 9) : dmA f (nI w) = (nI 1 - f (640 + w), upd f (640 + w) (nI 1 - f (640 + w))) := by
  unfold dmA
  rw [inB_of (by omega) (Nat.zero_le _) h, nI_clamp (by omega)]
  rfl
/-- the bits of the words below w are right -/
def rpF (f : Nat → Int32) (w : Nat) : Nat → Int32 := fun j => if 640 ≤ j ∧ j < 640 + w then rt f (j - 640) else f j
def rpN (f : Nat → Int32) (w : Nat) : Nat := fb_ct (fun x => decide (¬ f (640 + x) = rt f x)) w
theorem rp_0 (f : Nat → Int32) : f = rpF f 0 := by
  funext j
  unfold rpF
  rw [if_neg (by omega)]
theorem rp_s {f g : Nat → Int32} {w : Nat} (hg : g = rpF f w) : upd g (640 + w) (rt f w) = rpF f (w + 1) := by
  rw [hg]
  funext j
  unfold rpF upd
  by_cases e : j = 640 + w
  · rw [if_pos e, if_pos (by omega), e, show 640 + w - 640 = w by omega]
  · rw [if_neg e]
    show (if 640 ≤ j ∧ j < 640 + w then rt f (j - 640) else f j) = _
    by_cases e2 : 640 ≤ j ∧ j < 640 + w
    · rw [if_pos e2, if_pos (by omega)]
    · rw [if_neg e2, if_neg (by omega)]
theorem rp_rt {f g : Nat → Int32} {w x : Nat} (hg : g = rpF f w) (h : x < 10) : rt g x = rt f x := by
  rw [hg]
  refine rt_cong (fun i hi => ?_)
  unfold rpF
  rw [if_neg (by omega)]
theorem rp_at {f g : Nat → Int32} {w : Nat} (hg : g = rpF f w) : g (640 + w) = f (640 + w) := by
  rw [hg]
  unfold rpF
  rw [if_neg (by omega)]
def rpA (f : Nat → Int32) : Int32 × (Nat → Int32) := (nI (rpN f 10), rpF f 10)
/-- a state of the history -/
def hsl (p : Nat → Int32) (i : Nat) : Nat → Int32 := fun j => p (667 * i + j)
def unN (f p : Nat → Int32) (k : Nat) : Nat → Int32 := if k = 0 then f else hsl p (k - 1)
def unA (k : Nat) : Int32 := if k = 0 then -2 else nI (k - 1)
def apA (tl : Nat) (c : Int32) : Int32 := if inB c (nI 1) (nI 255) = true then (if tl = 80 then -3 else nI (tl + 1)) else -1
def apT (tex : Nat → Int32) (tl : Nat) (c : Int32) : Nat → Int32 := if inB c (nI 1) (nI 255) = true ∧ ¬ tl = 80 then upd tex tl c else tex
def apL (tl : Nat) (c : Int32) : Nat := if inB c (nI 1) (nI 255) = true ∧ ¬ tl = 80 then tl + 1 else tl
theorem gbv_2 {f : Nat → Int32} {j : Nat} (h : f (320 + j) ≤ 0) : gbv f j = nI 2 := if_neg (by rw [Int32.lt_iff_toInt_lt]; rw [Int32.le_iff_toInt_le] at h; omega)
theorem gbv_3 {f : Nat → Int32} {j : Nat} (h : ¬ f (320 + j) ≤ 0) : gbv f j = nI 3 := if_pos (by rw [Int32.lt_iff_toInt_lt]; rw [Int32.le_iff_toInt_le] at h; omega)
theorem gbN_le (f : Nat → Int32) (a n : Nat) : gbN f a n ≤ n := fb_ct_le _ _
theorem guN_le (f : Nat → Int32) (a n : Nat) : guN f a n ≤ n := fb_ct_le _ _
theorem le0n {x : Int32} (h : ¬ x ≤ 0) : 0 < x := by
  rw [Int32.lt_iff_toInt_lt]
  rw [Int32.le_iff_toInt_le] at h
  omega
theorem le0y {x : Int32} (h : x ≤ 0) : ¬ 0 < x := by
  rw [Int32.lt_iff_toInt_lt]
  rw [Int32.le_iff_toInt_le] at h
  omega
set_option maxHeartbeats 4000000 in
set_option maxRecDepth 100000 in
theorem c_X4_take {l : Launch} {D : va_G} {cI cG cC cR : ClassId} {h : Nat → Nat} {now past bef tri tex : Nat → Int32} {typed ati : Int32} {k : Nat} (hk : k ≤ 5) : CtI l yX4_take wsX4_take { frames := 5, cells := 0, slots := 0, locals := 113 } D (TY cI cG cC cR) [.ref (h 0)] (MW h cI now past (nI k) bef tri tex typed ati) (fun (u : Nat → Int32) => MW h cI (fnN now (tkA now).2 (tkA now).1) (fnP past k now (tkA now).1) (nI (fnK k (tkA now).1)) u tri tex typed ati) (fun (r : Int32) (u : Nat → Int32) => r = (tkA now).1) := by
  refine CtI.of (cc := cX4_take) (maxL := 1) (ty := .int) (by decide) rfl (Nat.le_of_ble_eq_true rfl) ?_
  intro P0 e0 s0 m0 a0 b0 t0 c0 A0 Q0 ls F hK hP hD hA RETN hl
  obtain ⟨hx, hb, hml, hown, hts⟩ := id F
  have hS : va_S A0 s0.heap s0.heap [] := va_S.rf
  have hl : lv_has ls 1 [(0, .ref (h 0))] := hl
  refine lv_aload_n hx hb dX4_take_0 rfl (lv_at hl 0 rfl) ?_
  refine cl_Vv (b := (h 0)) (As := []) (rest := []) (wc := MW h cI now past (nI k) bef tri tex typed ati) (wsN := fun (_ : Unit) => MW h cI now past (nI k) now tri tex typed ati) F hK hA hP hD hS (c_X4_notes) (cwV 0 hts gX4_take_X4_notes rfl rfl rfl (by decide +kernel) ⟨Nat.le_of_ble_eq_true rfl, Nat.le_of_ble_eq_true rfl⟩) [0, 1, 2, 3, 4, 5] [] [0, 1, 2, 3, 4, 5] ([]) rfl rfl (fun _ => rfl) (by decide) (by decide) 0 rfl rfl rfl hl.1 rfl (Nat.le_of_ble_eq_true rfl) ⟨Nat.zero_le _, Nat.zero_le _⟩ dX4_take_1 (fun _ H locs hw_1 hP hD hS => ?_)
  try dsimp only at hw_1 hP hD
  refine lv_aload_n hx hb dX4_take_4 rfl (lv_at hl 0 rfl) ?_
  refine lv_aload_n hx hb dX4_take_5 rfl (lv_at hl 0 rfl) ?_
  refine cl_Vi (b := (h 0)) (As := []) (rest := [.ref (h 0)]) (wc := MW h cI now past (nI k) now tri tex typed ati) (wsN := fun (u1 : Nat → Int32) => MW h cI u1 past (nI k) now tri tex typed ati) F hK hA hP hD hS (c_X4_takes1) (cwV 0 hts gX4_take_X4_takes1 rfl rfl rfl (by decide +kernel) ⟨Nat.le_of_ble_eq_true rfl, Nat.le_of_ble_eq_true rfl⟩) [0, 1, 2, 3, 4, 5] [] [0, 1, 2, 3, 4, 5] ([]) rfl rfl (fun _ => rfl) (by decide) (by decide) 0 rfl rfl rfl hl.1 rfl (Nat.le_of_ble_eq_true rfl) ⟨Nat.zero_le _, Nat.zero_le _⟩ dX4_take_6 (fun r1 u1 H locs hw_3 hP hD hS => ?_)
  try dsimp only at hw_3 hP hD
  obtain ⟨rfl, rfl⟩ := hw_3
  have hP : va_P D vwCl (MW h cI ((tkA now).2) past (nI k) now tri tex typed ati) H := hP
  have hD : va_D A0 (MW h cI ((tkA now).2) past (nI k) now tri tex typed ati) := hD
  refine cl_Vi (b := (h 0)) (As := [.int ((tkA now).1)]) (rest := []) (wc := MW h cI ((tkA now).2) past (nI k) now tri tex typed ati) (wsN := fun (_ : Unit) => MW h cI (fnN now (tkA now).2 (tkA now).1) (fnP past k now (tkA now).1) (nI (fnK k (tkA now).1)) now tri tex typed ati) F hK hA hP hD hS (c_X4_ends hk) (cwV 1 hts gX4_take_X4_ends rfl rfl rfl (by decide +kernel) ⟨Nat.le_of_ble_eq_true rfl, Nat.le_of_ble_eq_true rfl⟩) [0, 1, 2, 3, 4, 5] [] [0, 1, 2, 3, 4, 5] ([]) rfl rfl (fun _ => rfl) (by decide) (by decide) 0 rfl rfl rfl hl.1 rfl (Nat.le_of_ble_eq_true rfl) ⟨Nat.zero_le _, Nat.zero_le _⟩ dX4_take_9 (fun r_6 _ H locs hw_5 hP hD hS => ?_)
  try dsimp only at hw_5 hP hD
  obtain rfl : r_6 = ((tkA now).1) := hw_5
  exact RETN _ _ ((tkA now).1) now _ _ dX4_take_12 (rfl) (rfl) hP hD hS
set_option maxHeartbeats 4000000 in
set_option maxRecDepth 100000 in
theorem c_X4_takeRun {l : Launch} {D : va_G} {cI cG cC cR : ClassId} {h : Nat → Nat} {now past bef tri tex : Nat → Int32} {typed ati : Int32} {k : Nat} (hk : k ≤ 5) {v : Int32} : CtI l yX4_takeRun wsX4_takeRun { frames := 3, cells := 0, slots := 0, locals := 67 } D (TY cI cG cC cR) [.ref (h 0), .int v] (MW h cI now past (nI k) bef tri tex typed ati) (fun (u : Nat → Int32) => MW h cI (fnN now (trA now v).2 (trA now v).1) (fnP past k now (trA now v).1) (nI (fnK k (trA now v).1)) u tri tex typed ati) (fun (r : Int32) (u : Nat → Int32) => r = (trA now v).1) := by
  refine CtI.of (cc := cX4_takeRun) (maxL := 4) (ty := .int) (by decide) rfl (Nat.le_of_ble_eq_true rfl) ?_
  intro P0 e0 s0 m0 a0 b0 t0 c0 A0 Q0 ls F hK hP hD hA RETN hl
  obtain ⟨hx, hb, hml, hown, hts⟩ := id F
  have hS : va_S A0 s0.heap s0.heap [] := va_S.rf
  have hl : lv_has ls 4 [(0, .ref (h 0)), (1, .int v)] := hl
  have lk7 := hts (.fieldLink RX4 7 "SlotMapsModel" "now" "[I") (by decide +kernel)
  have hI4 : ∀ w ∈ u_ws RX4 TX4 8, w ∈ wsX4_takeRun := by decide +kernel
  refine lv_iload_n hx hb dX4_takeRun_0 rfl (lv_at hl 1 rfl) ?_
  refine lv_iconst (v := (nI 1)) hx hb dX4_takeRun_1 (by decide) ?_
  refine lv_bipush (v := (nI 64)) hx hb dX4_takeRun_2 (by decide) ?_
  refine cl_S0 (As := [.int v, .int (nI 1), .int (nI 64)]) (rest := []) F hK hA hP hD hS (c_X4_in) (va_cwS 3 hts gX4_takeRun_X4_in rfl rfl rfl (by decide +kernel) ⟨Nat.le_of_ble_eq_true rfl, Nat.le_of_ble_eq_true rfl⟩) rfl hl.1 rfl (Nat.le_of_ble_eq_true rfl) ⟨Nat.zero_le _, Nat.zero_le _⟩ dX4_takeRun_4 (fun r_1 H locs hw_2 hP hS => ?_)
  try dsimp only at hw_2
  obtain rfl : r_1 = (bI (inB v (nI 1) (nI 64))) := hw_2
  refine lv_if_ne (tgt := 12) hx hb dX4_takeRun_7 (by decide) (fun c7 => ?_) (fun c7 => ?_)
  · skip
    replace c7 : ¬ (bI (inB v (nI 1) (nI 64))) = nI 0 := c7
    obtain ⟨m, hlo_m, hhi_m, rfl⟩ := inB_nat (by omega) (by omega) (bI_ct c7)
    refine lv_aload_n hx hb dX4_takeRun_12 rfl (lv_at hl 0 rfl) ?_
    refine lv_iload_n hx hb dX4_takeRun_13 rfl (lv_at hl 1 rfl) ?_
    refine cl_Vi (b := (h 0)) (As := [.int (nI m)]) (rest := []) (wc := MW h cI now past (nI k) bef tri tex typed ati) (wsN := fun (_ : Unit) => MW h cI now past (nI k) bef tri tex typed ati) F hK hA hP hD hS (c_X4_runFrom (by omega) (by omega)) (cwV 1 hts gX4_takeRun_X4_runFrom rfl rfl rfl (by decide +kernel) ⟨Nat.le_of_ble_eq_true rfl, Nat.le_of_ble_eq_true rfl⟩) [0, 1, 2, 3, 4, 5] [] [0, 1, 2, 3, 4, 5] ([]) rfl rfl (fun _ => rfl) (by decide) (by decide) 0 rfl rfl rfl hl.1 rfl (Nat.le_of_ble_eq_true rfl) ⟨Nat.zero_le _, Nat.zero_le _⟩ dX4_takeRun_14 (fun rr _ H locs hw_3 hP hD hS => ?_)
    try dsimp only at hw_3 hP hD
    have hrr : rr = oI (rn now m 320 0 0) := hw_3
    cases ho : rn now m 320 0 0 with
    | none =>
      obtain rfl : rr = -9 := by rw [hrr, ho]; rfl
      refine lv_istore_n (lv' := [(2, .int (-9)), (0, .ref (h 0)), (1, .int (nI m))]) hx hb dX4_takeRun_17 rfl hl (by decide) rfl (fun ls hl => ?_)
      refine lv_iload_n hx hb dX4_takeRun_18 rfl (lv_at hl 0 rfl) ?_
      refine lv_bipush (v := (-9)) hx hb dX4_takeRun_19 (by decide) ?_
      refine lv_icmp_ne (tgt := 27) hx hb dX4_takeRun_21 (by decide) (fun c21 => ?_) (fun c21 => ?_)
      · skip
        exfalso
        exact c21 rfl
      · skip
        refine lv_bipush (v := (-3)) hx hb dX4_takeRun_24 (by decide) ?_
        have eA : trA now (nI m) = (-3, now) := trA_0 (by omega) (by omega) ho
        obtain ⟨e1, e2, e3⟩ := fn_n3 now now past k
        have hP : va_P D vwCl (MW h cI (fnN now (trA now (nI m)).2 (trA now (nI m)).1) (fnP past k now (trA now (nI m)).1) (nI (fnK k (trA now (nI m)).1)) bef tri tex typed ati) H := by rw [eA]; dsimp only; rw [e1, e2, e3]; exact hP
        have hD : va_D A0 (MW h cI (fnN now (trA now (nI m)).2 (trA now (nI m)).1) (fnP past k now (trA now (nI m)).1) (nI (fnK k (trA now (nI m)).1)) bef tri tex typed ati) := by rw [eA]; dsimp only; rw [e1, e2, e3]; exact hD
        exact RETN _ _ (-3) bef _ _ dX4_takeRun_26 (rfl) (by rw [eA]) hP hD hS
    | some sl =>
      obtain rfl : rr = nI sl := by rw [hrr, ho]; rfl
      obtain ⟨hsl, hfree⟩ := rn_ok (by omega) ho
      have eA : trA now (nI m) = (nI sl, trF now sl m) := trA_s (by omega) (by omega) ho
      refine lv_istore_n (lv' := [(2, .int (nI sl)), (0, .ref (h 0)), (1, .int (nI m))]) hx hb dX4_takeRun_17 rfl hl (by decide) rfl (fun ls hl => ?_)
      refine lv_iload_n hx hb dX4_takeRun_18 rfl (lv_at hl 0 rfl) ?_
      refine lv_bipush (v := (-9)) hx hb dX4_takeRun_19 (by decide) ?_
      refine lv_icmp_ne (tgt := 27) hx hb dX4_takeRun_21 (by decide) (fun c21 => ?_) (fun c21 => ?_)
      · skip
        refine lv_aload_n hx hb dX4_takeRun_27 rfl (lv_at hl 1 rfl) ?_
        refine cl_Vv (b := (h 0)) (As := []) (rest := []) (wc := MW h cI now past (nI k) bef tri tex typed ati) (wsN := fun (_ : Unit) => MW h cI now past (nI k) now tri tex typed ati) F hK hA hP hD hS (c_X4_notes) (cwV 0 hts gX4_takeRun_X4_notes rfl rfl rfl (by decide +kernel) ⟨Nat.le_of_ble_eq_true rfl, Nat.le_of_ble_eq_true rfl⟩) [0, 1, 2, 3, 4, 5] [] [0, 1, 2, 3, 4, 5] ([]) rfl rfl (fun _ => rfl) (by decide) (by decide) 0 rfl rfl rfl hl.1 rfl (Nat.le_of_ble_eq_true rfl) ⟨Nat.zero_le _, Nat.zero_le _⟩ dX4_takeRun_28 (fun _ H locs hw_5 hP hD hS => ?_)
        try dsimp only at hw_5 hP hD
        refine lv_aload_n hx hb dX4_takeRun_31 rfl (lv_at hl 1 rfl) ?_
        refine va_get (D := D) (ci := 4) (v := .ref (h 1)) (C := RX4) (T := TX4) (N := 8) hx hb hts hI4 hown hK.1 hP 0 rfl rfl 0 (by decide) lk7 (fun _ h9 => h9) rfl dX4_takeRun_32 ?_
        refine lv_sipush (v := (nI 666)) hx hb dX4_takeRun_35 (by decide) ?_
        refine lv_dup2_11 hx hb dX4_takeRun_38 rfl rfl ?_
        refine n_iald hx hb hK hP 1 0 rfl rfl (by decide) (by omega) dX4_takeRun_39 ?_
        refine lv_iload_n hx hb dX4_takeRun_40 rfl (lv_at hl 0 rfl) ?_
        refine lv_iload_n hx hb dX4_takeRun_41 rfl (lv_at hl 2 rfl) ?_
        refine lv_iadd hx hb dX4_takeRun_42 ?_
        refine n_as (x' := nI (sl + m)) (nI_add _ _) ?_
        refine lv_iconst (v := (nI 1)) hx hb dX4_takeRun_43 (by decide) ?_
        refine lv_isub hx hb dX4_takeRun_44 ?_
        refine n_as (x' := nI ((sl + m) - 1)) (pk_sub (by omega)) ?_
        refine lv_bipush (v := (nI 32)) hx hb dX4_takeRun_45 (by decide) ?_
        refine lv_idiv hx hb dX4_takeRun_47 (nI_ne0 (by omega) (by omega)) ?_
        refine n_as (x' := nI (((sl + m) - 1) / 32)) (pk_div (by omega) (by omega) (by omega)) ?_
        refine lv_iconst (v := (nI 1)) hx hb dX4_takeRun_48 (by decide) ?_
        refine lv_iadd hx hb dX4_takeRun_49 ?_
        refine n_as (x' := nI ((((sl + m) - 1) / 32) + 1)) (nI_add _ _) ?_
        refine lv_iadd hx hb dX4_takeRun_50 ?_
        refine n_iast hx hb hK hP hD hS 1 0 rfl rfl (by decide) (by omega) dX4_takeRun_51 (wsN := MW h cI (upd now 666 ((now 666) + (nI ((((sl + m) - 1) / 32) + 1)))) past (nI k) now tri tex typed ati) rfl (fun H locs hP hD hS => ?_)
        refine lv_iload_n hx hb dX4_takeRun_52 rfl (lv_at hl 0 rfl) ?_
        refine lv_istore_n (lv' := [(3, .int (nI sl)), (2, .int (nI sl)), (0, .ref (h 0)), (1, .int (nI m))]) hx hb dX4_takeRun_53 rfl hl (by decide) rfl (fun ls hl => ?_)
        have LP54 : ∀ (nn : Nat) (i : Nat) (g : Nat → Int32) (H : Heap) (locs : List Loc) (ls : Array Slot), i ≤ m → g = trP now sl m i → m - i < nn → va_P D vwCl (MW h cI g past (nI k) now tri tex typed ati) H → va_D A0 (MW h cI g past (nI k) now tri tex typed ati) → va_S A0 s0.heap H locs → lv_has ls 4 [(3, .int (nI (sl + i))), (2, .int (nI sl)), (0, .ref (h 0)), (1, .int (nI m))] → W P0 l e0 { frames := 3, cells := 0, slots := 0, locals := 67 } s0 m0 a0 b0 t0 c0 H locs 0 0 Q0 (F0 m0 54 ls []) := by
          intro nn
          induction nn with
          | zero => intro i g H locs ls hi hg hmu; exact absurd hmu (Nat.not_lt_zero _)
          | succ nn ih54 =>
            intro i g H locs ls hi hg hmu54 hP hD hS hl
            refine lv_iload_n hx hb dX4_takeRun_54 rfl (lv_at hl 0 rfl) ?_
            refine lv_iload_n hx hb dX4_takeRun_55 rfl (lv_at hl 1 rfl) ?_
            refine lv_iload_n hx hb dX4_takeRun_56 rfl (lv_at hl 3 rfl) ?_
            refine lv_iadd hx hb dX4_takeRun_57 ?_
            refine n_as (x' := nI (sl + m)) (nI_add _ _) ?_
            refine lv_icmp_ge (tgt := 73) hx hb dX4_takeRun_58 (by decide) (fun c58 => ?_) (fun c58 => ?_)
            · skip
              replace c58 : (sl + m) ≤ (sl + i) := by rw [nI_leI (by omega) (by omega)] at c58; exact c58
              have eg : g = (trA now (nI m)).2 := by rw [eA, hg, show i = m by omega]; rfl
              subst eg
              have hP : va_P D vwCl (MW h cI ((trA now (nI m)).2) past (nI k) now tri tex typed ati) H := hP
              have hD : va_D A0 (MW h cI ((trA now (nI m)).2) past (nI k) now tri tex typed ati) := hD
              refine lv_aload_n hx hb dX4_takeRun_73 rfl (lv_at hl 2 rfl) ?_
              refine lv_iload_n hx hb dX4_takeRun_74 rfl (lv_at hl 1 rfl) ?_
              refine n_as (x' := ((trA now (nI m)).1)) (by rw [eA]) ?_
              refine cl_Vi (b := (h 0)) (As := [.int ((trA now (nI m)).1)]) (rest := []) (wc := MW h cI ((trA now (nI m)).2) past (nI k) now tri tex typed ati) (wsN := fun (_ : Unit) => MW h cI (fnN now (trA now (nI m)).2 (trA now (nI m)).1) (fnP past k now (trA now (nI m)).1) (nI (fnK k (trA now (nI m)).1)) now tri tex typed ati) F hK hA hP hD hS (c_X4_ends hk) (cwV 1 hts gX4_takeRun_X4_ends rfl rfl rfl (by decide +kernel) ⟨Nat.le_of_ble_eq_true rfl, Nat.le_of_ble_eq_true rfl⟩) [0, 1, 2, 3, 4, 5] [] [0, 1, 2, 3, 4, 5] ([]) rfl rfl (fun _ => rfl) (by decide) (by decide) 0 rfl rfl rfl hl.1 rfl (Nat.le_of_ble_eq_true rfl) ⟨Nat.zero_le _, Nat.zero_le _⟩ dX4_takeRun_75 (fun r_8 _ H locs hw_7 hP hD hS => ?_)
              try dsimp only at hw_7 hP hD
              obtain rfl : r_8 = ((trA now (nI m)).1) := hw_7
              exact RETN _ _ ((trA now (nI m)).1) now _ _ dX4_takeRun_78 (rfl) (rfl) hP hD hS
            · skip
              replace c58 : ¬ ((sl + m) ≤ (sl + i)) := by rw [nI_leI (by omega) (by omega)] at c58; exact c58
              refine lv_aload_n hx hb dX4_takeRun_61 rfl (lv_at hl 2 rfl) ?_
              refine lv_iload_n hx hb dX4_takeRun_62 rfl (lv_at hl 0 rfl) ?_
              refine lv_iconst (v := (nI 1)) hx hb dX4_takeRun_63 (by decide) ?_
              refine cl_Vv (b := (h 0)) (As := [.int (nI (sl + i)), .int (nI 1)]) (rest := []) (wc := MW h cI g past (nI k) now tri tex typed ati) (wsN := fun (_ : Unit) => MW h cI (bc1 g (sl + i) (nI 1)) past (nI k) now tri tex typed ati) F hK hA hP hD hS (c_X4_becomes (by omega)) (cwV 2 hts gX4_takeRun_X4_becomes rfl rfl rfl (by decide +kernel) ⟨Nat.le_of_ble_eq_true rfl, Nat.le_of_ble_eq_true rfl⟩) [0, 1, 2, 3, 4, 5] [] [0, 1, 2, 3, 4, 5] ([]) rfl rfl (fun _ => rfl) (by decide) (by decide) 0 rfl rfl rfl hl.1 rfl (Nat.le_of_ble_eq_true rfl) ⟨Nat.zero_le _, Nat.zero_le _⟩ dX4_takeRun_64 (fun _ H locs hw_9 hP hD hS => ?_)
              try dsimp only at hw_9 hP hD
              refine lv_iinc (v := (nI ((sl + i) + 1))) (lv' := [(3, .int (nI ((sl + i) + 1))), (2, .int (nI sl)), (0, .ref (h 0)), (1, .int (nI m))]) hx hb dX4_takeRun_67 hl (k := 0) rfl (n_inc1 _) (by decide) rfl (fun ls hl => ?_)
              refine lv_goto (tgt := 54) hx hb dX4_takeRun_70 (by decide) ?_
              exact ih54 (i + 1) (bc1 g (sl + i) (nI 1)) _ _ _ (by omega) (tr_s hg (by omega)) (by omega) hP hD hS (lv_sub hl [0, 1, 2, 3] rfl)
        exact LP54 _ 0 (upd now 666 ((now 666) + (nI ((((sl + m) - 1) / 32) + 1)))) _ _ _ (by omega) (tr_0 now sl m) (Nat.lt_succ_self _) hP hD hS (lv_sub hl [0, 1, 2, 3] rfl)
      · skip
        exfalso
        exact ne9 (by omega) c21
  · skip
    replace c7 : (bI (inB v (nI 1) (nI 64))) = nI 0 := c7
    refine lv_iconst (v := (-1)) hx hb dX4_takeRun_10 (by decide) ?_
    have eA : trA now v = (-1, now) := trA_n (bI_cf c7)
    obtain ⟨e1, e2, e3⟩ := fn_n1 now now past k
    have hP : va_P D vwCl (MW h cI (fnN now (trA now v).2 (trA now v).1) (fnP past k now (trA now v).1) (nI (fnK k (trA now v).1)) bef tri tex typed ati) H := by rw [eA]; dsimp only; rw [e1, e2, e3]; exact hP
    have hD : va_D A0 (MW h cI (fnN now (trA now v).2 (trA now v).1) (fnP past k now (trA now v).1) (nI (fnK k (trA now v).1)) bef tri tex typed ati) := by rw [eA]; dsimp only; rw [e1, e2, e3]; exact hD
    exact RETN _ _ (-1) bef _ _ dX4_takeRun_11 (rfl) (by rw [eA]) hP hD hS
set_option maxHeartbeats 4000000 in
set_option maxRecDepth 100000 in
theorem c_X4_givesBack {l : Launch} {D : va_G} {cI cG cC cR : ClassId} {h : Nat → Nat} {now past bef tri tex : Nat → Int32} {pasts typed ati : Int32} {va vb : Int32} : CtI l yX4_givesBack wsX4_givesBack { frames := 3, cells := 0, slots := 0, locals := 67 } D (TY cI cG cC cR) [.ref (h 0), .int va, .int vb] (MW h cI now past pasts bef tri tex typed ati) (fun (u : Nat → Int32) => MW h cI u past pasts bef tri tex typed ati) (fun (r : Int32) (u : Nat → Int32) => r = (gbA now va vb).1 ∧ u = (gbA now va vb).2) := by
  refine CtI.of (cc := cX4_givesBack) (maxL := 5) (ty := .int) (by decide) rfl (Nat.le_of_ble_eq_true rfl) ?_
  intro P0 e0 s0 m0 a0 b0 t0 c0 A0 Q0 ls F hK hP hD hA RETN hl
  obtain ⟨hx, hb, hml, hown, hts⟩ := id F
  have hS : va_S A0 s0.heap s0.heap [] := va_S.rf
  have hl : lv_has ls 5 [(0, .ref (h 0)), (1, .int va), (2, .int vb)] := hl
  have lk7 := hts (.fieldLink RX4 7 "SlotMapsModel" "now" "[I") (by decide +kernel)
  have hI4 : ∀ w ∈ u_ws RX4 TX4 8, w ∈ wsX4_givesBack := by decide +kernel
  refine lv_iload_n hx hb dX4_givesBack_0 rfl (lv_at hl 1 rfl) ?_
  refine lv_iconst (v := (nI 0)) hx hb dX4_givesBack_1 (by decide) ?_
  refine lv_sipush (v := (nI 319)) hx hb dX4_givesBack_2 (by decide) ?_
  refine cl_S0 (As := [.int va, .int (nI 0), .int (nI 319)]) (rest := []) F hK hA hP hD hS (c_X4_in) (va_cwS 3 hts gX4_givesBack_X4_in rfl rfl rfl (by decide +kernel) ⟨Nat.le_of_ble_eq_true rfl, Nat.le_of_ble_eq_true rfl⟩) rfl hl.1 rfl (Nat.le_of_ble_eq_true rfl) ⟨Nat.zero_le _, Nat.zero_le _⟩ dX4_givesBack_5 (fun r_1 H locs hw_2 hP hS => ?_)
  try dsimp only at hw_2
  obtain rfl : r_1 = (bI (inB va (nI 0) (nI 319))) := hw_2
  refine lv_if_eq (tgt := 22) hx hb dX4_givesBack_8 (by decide) (fun c8 => ?_) (fun c8 => ?_)
  · skip
    replace c8 : (bI (inB va (nI 0) (nI 319))) = nI 0 := c8
    refine lv_iconst (v := (-1)) hx hb dX4_givesBack_22 (by decide) ?_
    exact RETN _ _ (-1) now _ _ dX4_givesBack_23 (rfl) (by first | (rw [gbA_n (Or.inl (bI_cf c8))]; exact ⟨rfl, rfl⟩) | (rw [gbA_n (Or.inr (bI_cf c19))]; exact ⟨rfl, rfl⟩)) hP hD hS
  · skip
    replace c8 : ¬ (bI (inB va (nI 0) (nI 319))) = nI 0 := c8
    obtain ⟨a, hlo_a, hhi_a, rfl⟩ := inB_nat (by omega) (by omega) (bI_ct c8)
    refine lv_iload_n hx hb dX4_givesBack_11 rfl (lv_at hl 2 rfl) ?_
    refine lv_iload_n hx hb dX4_givesBack_12 rfl (lv_at hl 1 rfl) ?_
    refine lv_sipush (v := (nI 319)) hx hb dX4_givesBack_13 (by decide) ?_
    refine cl_S0 (As := [.int vb, .int (nI a), .int (nI 319)]) (rest := []) F hK hA hP hD hS (c_X4_in) (va_cwS 3 hts gX4_givesBack_X4_in rfl rfl rfl (by decide +kernel) ⟨Nat.le_of_ble_eq_true rfl, Nat.le_of_ble_eq_true rfl⟩) rfl hl.1 rfl (Nat.le_of_ble_eq_true rfl) ⟨Nat.zero_le _, Nat.zero_le _⟩ dX4_givesBack_16 (fun r_3 H locs hw_4 hP hS => ?_)
    try dsimp only at hw_4
    obtain rfl : r_3 = (bI (inB vb (nI a) (nI 319))) := hw_4
    refine lv_if_ne (tgt := 24) hx hb dX4_givesBack_19 (by decide) (fun c19 => ?_) (fun c19 => ?_)
    · skip
      replace c19 : ¬ (bI (inB vb (nI a) (nI 319))) = nI 0 := c19
      obtain ⟨b2, hlo_b2, hhi_b2, rfl⟩ := inB_nat (by omega) (by omega) (bI_ct c19)
      refine lv_iconst (v := (nI 0)) hx hb dX4_givesBack_24 (by decide) ?_
      refine lv_istore_n (lv' := [(3, .int (nI 0)), (0, .ref (h 0)), (1, .int (nI a)), (2, .int (nI b2))]) hx hb dX4_givesBack_25 rfl hl (by decide) rfl (fun ls hl => ?_)
      refine lv_iload_n hx hb dX4_givesBack_26 rfl (lv_at hl 2 rfl) ?_
      refine lv_istore (lv' := [(4, .int (nI a)), (3, .int (nI 0)), (0, .ref (h 0)), (1, .int (nI a)), (2, .int (nI b2))]) hx hb dX4_givesBack_27 hl (by decide) rfl (fun ls hl => ?_)
      have LP29 : ∀ (nn : Nat) (i : Nat) (n : Nat) (g : Nat → Int32) (H : Heap) (locs : List Loc) (ls : Array Slot), i ≤ b2 + 1 - a → n = gbN now a i → g = gbF now a i → b2 + 1 - a - i < nn → va_P D vwCl (MW h cI g past pasts bef tri tex typed ati) H → va_D A0 (MW h cI g past pasts bef tri tex typed ati) → va_S A0 s0.heap H locs → lv_has ls 5 [(4, .int (nI (a + i))), (3, .int (nI n)), (0, .ref (h 0)), (1, .int (nI a)), (2, .int (nI b2))] → W P0 l e0 { frames := 3, cells := 0, slots := 0, locals := 67 } s0 m0 a0 b0 t0 c0 H locs 0 0 Q0 (F0 m0 29 ls []) := by
        intro nn
        induction nn with
        | zero => intro i n g H locs ls hi hn hg hmu; exact absurd hmu (Nat.not_lt_zero _)
        | succ nn ih29 =>
          intro i n g H locs ls hi hn hg hmu29 hP hD hS hl
          have hnl := gbN_le now a i
          refine lv_iload hx hb dX4_givesBack_29 (lv_at hl 0 rfl) ?_
          refine lv_iload_n hx hb dX4_givesBack_31 rfl (lv_at hl 4 rfl) ?_
          refine lv_icmp_gt (tgt := 80) hx hb dX4_givesBack_32 (by decide) (fun c32 => ?_) (fun c32 => ?_)
          · skip
            replace c32 : b2 < (a + i) := by rw [nI_ltI (by omega) (by omega)] at c32; exact c32
            refine lv_iload_n hx hb dX4_givesBack_80 rfl (lv_at hl 1 rfl) ?_
            refine lv_if_ne (tgt := 89) hx hb dX4_givesBack_81 (by decide) (fun c81 => ?_) (fun c81 => ?_)
            · skip
              replace c81 : ¬ n = 0 := by rw [show (0 : Int32) = nI 0 from rfl, nI_eq (by omega) (by omega)] at c81; exact c81
              refine lv_iload_n hx hb dX4_givesBack_89 rfl (lv_at hl 1 rfl) ?_
              exact RETN _ _ (nI n) g _ _ dX4_givesBack_90 (rfl) (by rw [show b2 = a + i - 1 by omega, gbA_s (by omega) (by omega)]; first | exact ⟨by rw [if_neg (by omega), hn], hg⟩ | exact ⟨by rw [if_pos (by omega)], hg⟩) hP hD hS
            · skip
              replace c81 : n = 0 := by rw [show (0 : Int32) = nI 0 from rfl, nI_eq (by omega) (by omega)] at c81; exact c81
              refine lv_bipush (v := (-2)) hx hb dX4_givesBack_84 (by decide) ?_
              refine lv_goto (tgt := 90) hx hb dX4_givesBack_86 (by decide) ?_
              exact RETN _ _ (-2) g _ _ dX4_givesBack_90 (rfl) (by rw [show b2 = a + i - 1 by omega, gbA_s (by omega) (by omega)]; first | exact ⟨by rw [if_neg (by omega), hn], hg⟩ | exact ⟨by rw [if_pos (by omega)], hg⟩) hP hD hS
          · skip
            replace c32 : ¬ (b2 < (a + i)) := by rw [nI_ltI (by omega) (by omega)] at c32; exact c32
            refine lv_aload_n hx hb dX4_givesBack_35 rfl (lv_at hl 2 rfl) ?_
            refine va_get (D := D) (ci := 4) (v := .ref (h 1)) (C := RX4) (T := TX4) (N := 8) hx hb hts hI4 hown hK.1 hP 0 rfl rfl 0 (by decide) lk7 (fun _ h9 => h9) rfl dX4_givesBack_36 ?_
            refine lv_iload hx hb dX4_givesBack_39 (lv_at hl 0 rfl) ?_
            refine n_iald hx hb hK hP 1 0 rfl rfl (by decide) (by omega) dX4_givesBack_41 ?_
            have hgs : g (a + i) = now (a + i) := gb_slot hg (by omega)
            refine lv_iconst (v := (nI 1)) hx hb dX4_givesBack_42 (by decide) ?_
            refine lv_icmp_ne (tgt := 74) hx hb dX4_givesBack_43 (by decide) (fun c43 => ?_) (fun c43 => ?_)
            · skip
              rw [hgs] at c43
              refine lv_iinc (v := (nI ((a + i) + 1))) (lv' := [(4, .int (nI ((a + i) + 1))), (3, .int (nI n)), (0, .ref (h 0)), (1, .int (nI a)), (2, .int (nI b2))]) hx hb dX4_givesBack_74 hl (k := 0) rfl (n_inc1 _) (by decide) rfl (fun ls hl => ?_)
              refine lv_goto (tgt := 29) hx hb dX4_givesBack_77 (by decide) ?_
              exact ih29 (i + 1) n g _ _ _ (by omega) (by rw [hn]; unfold gbN; rw [fb_ct_succ]; simp [c43]) (by first | exact gb_take hg (by omega) c43 rfl | exact gb_skip hg c43) (by omega) hP hD hS (lv_sub hl [0, 1, 2, 3, 4] rfl)
            · skip
              rw [hgs] at c43
              refine lv_aload_n hx hb dX4_givesBack_46 rfl (lv_at hl 2 rfl) ?_
              refine lv_iload hx hb dX4_givesBack_47 (lv_at hl 0 rfl) ?_
              refine lv_aload_n hx hb dX4_givesBack_49 rfl (lv_at hl 2 rfl) ?_
              refine va_get (D := D) (ci := 4) (v := .ref (h 1)) (C := RX4) (T := TX4) (N := 8) hx hb hts hI4 hown hK.1 hP 0 rfl rfl 0 (by decide) lk7 (fun _ h9 => h9) rfl dX4_givesBack_50 ?_
              refine lv_sipush (v := (nI 320)) hx hb dX4_givesBack_53 (by decide) ?_
              refine lv_iload hx hb dX4_givesBack_56 (lv_at hl 0 rfl) ?_
              refine lv_iadd hx hb dX4_givesBack_58 ?_
              refine n_as (x' := nI (320 + (a + i))) (nI_add _ _) ?_
              refine n_iald hx hb hK hP 1 0 rfl rfl (by decide) (by omega) dX4_givesBack_59 ?_
              refine lv_if_le (tgt := 67) hx hb dX4_givesBack_60 (by decide) (fun c60 => ?_) (fun c60 => ?_)
              · skip
                rw [gb_own hg (by omega)] at c60
                have hx1 := gbv_2 c60
                refine lv_iconst (v := (nI 2)) hx hb dX4_givesBack_67 (by decide) ?_
                refine n_as (x' := (gbv now (a + i))) (hx1.symm) ?_
                refine cl_Vv (b := (h 0)) (As := [.int (nI (a + i)), .int (gbv now (a + i))]) (rest := []) (wc := MW h cI g past pasts bef tri tex typed ati) (wsN := fun (_ : Unit) => MW h cI (bc1 g (a + i) (gbv now (a + i))) past pasts bef tri tex typed ati) F hK hA hP hD hS (c_X4_becomes (by omega)) (cwV 2 hts gX4_givesBack_X4_becomes rfl rfl rfl (by decide +kernel) ⟨Nat.le_of_ble_eq_true rfl, Nat.le_of_ble_eq_true rfl⟩) [0, 1, 2, 3, 4, 5] [] [0, 1, 2, 3, 4, 5] ([]) rfl rfl (fun _ => rfl) (by decide) (by decide) 0 rfl rfl rfl hl.1 rfl (Nat.le_of_ble_eq_true rfl) ⟨Nat.zero_le _, Nat.zero_le _⟩ dX4_givesBack_68 (fun _ H locs hw_5 hP hD hS => ?_)
                try dsimp only at hw_5 hP hD
                refine lv_iinc (v := (nI (n + 1))) (lv' := [(3, .int (nI (n + 1))), (4, .int (nI (a + i))), (0, .ref (h 0)), (1, .int (nI a)), (2, .int (nI b2))]) hx hb dX4_givesBack_71 hl (k := 1) rfl (n_inc1 _) (by decide) rfl (fun ls hl => ?_)
                refine lv_iinc (v := (nI ((a + i) + 1))) (lv' := [(4, .int (nI ((a + i) + 1))), (3, .int (nI (n + 1))), (0, .ref (h 0)), (1, .int (nI a)), (2, .int (nI b2))]) hx hb dX4_givesBack_74 hl (k := 1) rfl (n_inc1 _) (by decide) rfl (fun ls hl => ?_)
                refine lv_goto (tgt := 29) hx hb dX4_givesBack_77 (by decide) ?_
                exact ih29 (i + 1) (n + 1) (bc1 g (a + i) (gbv now (a + i))) _ _ _ (by omega) (by rw [hn]; unfold gbN; rw [fb_ct_succ]; simp [c43]) (by first | exact gb_take hg (by omega) c43 rfl | exact gb_skip hg c43) (by omega) hP hD hS (lv_sub hl [0, 1, 2, 3, 4] rfl)
              · skip
                rw [gb_own hg (by omega)] at c60
                have hx1 := gbv_3 c60
                refine lv_iconst (v := (nI 3)) hx hb dX4_givesBack_63 (by decide) ?_
                refine n_as (x' := (gbv now (a + i))) (hx1.symm) ?_
                refine lv_goto (tgt := 68) hx hb dX4_givesBack_64 (by decide) ?_
                refine cl_Vv (b := (h 0)) (As := [.int (nI (a + i)), .int (gbv now (a + i))]) (rest := []) (wc := MW h cI g past pasts bef tri tex typed ati) (wsN := fun (_ : Unit) => MW h cI (bc1 g (a + i) (gbv now (a + i))) past pasts bef tri tex typed ati) F hK hA hP hD hS (c_X4_becomes (by omega)) (cwV 2 hts gX4_givesBack_X4_becomes rfl rfl rfl (by decide +kernel) ⟨Nat.le_of_ble_eq_true rfl, Nat.le_of_ble_eq_true rfl⟩) [0, 1, 2, 3, 4, 5] [] [0, 1, 2, 3, 4, 5] ([]) rfl rfl (fun _ => rfl) (by decide) (by decide) 0 rfl rfl rfl hl.1 rfl (Nat.le_of_ble_eq_true rfl) ⟨Nat.zero_le _, Nat.zero_le _⟩ dX4_givesBack_68 (fun _ H locs hw_7 hP hD hS => ?_)
                try dsimp only at hw_7 hP hD
                refine lv_iinc (v := (nI (n + 1))) (lv' := [(3, .int (nI (n + 1))), (4, .int (nI (a + i))), (0, .ref (h 0)), (1, .int (nI a)), (2, .int (nI b2))]) hx hb dX4_givesBack_71 hl (k := 1) rfl (n_inc1 _) (by decide) rfl (fun ls hl => ?_)
                refine lv_iinc (v := (nI ((a + i) + 1))) (lv' := [(4, .int (nI ((a + i) + 1))), (3, .int (nI (n + 1))), (0, .ref (h 0)), (1, .int (nI a)), (2, .int (nI b2))]) hx hb dX4_givesBack_74 hl (k := 1) rfl (n_inc1 _) (by decide) rfl (fun ls hl => ?_)
                refine lv_goto (tgt := 29) hx hb dX4_givesBack_77 (by decide) ?_
                exact ih29 (i + 1) (n + 1) (bc1 g (a + i) (gbv now (a + i))) _ _ _ (by omega) (by rw [hn]; unfold gbN; rw [fb_ct_succ]; simp [c43]) (by first | exact gb_take hg (by omega) c43 rfl | exact gb_skip hg c43) (by omega) hP hD hS (lv_sub hl [0, 1, 2, 3, 4] rfl)
      exact LP29 _ 0 0 now _ _ _ (by omega) (rfl) (gb_0 now a) (Nat.lt_succ_self _) hP hD hS (lv_sub hl [0, 1, 2, 3, 4] rfl)
    · skip
      replace c19 : (bI (inB vb (nI a) (nI 319))) = nI 0 := c19
      refine lv_iconst (v := (-1)) hx hb dX4_givesBack_22 (by decide) ?_
      exact RETN _ _ (-1) now _ _ dX4_givesBack_23 (rfl) (by first | (rw [gbA_n (Or.inl (bI_cf c8))]; exact ⟨rfl, rfl⟩) | (rw [gbA_n (Or.inr (bI_cf c19))]; exact ⟨rfl, rfl⟩)) hP hD hS
set_option maxHeartbeats 4000000 in
set_option maxRecDepth 100000 in
theorem c_X4_giveBack {l : Launch} {D : va_G} {cI cG cC cR : ClassId} {h : Nat → Nat} {now past bef tri tex : Nat → Int32} {typed ati : Int32} {k : Nat} (hk : k ≤ 5) {va vb : Int32} : CtI l yX4_giveBack wsX4_giveBack { frames := 4, cells := 0, slots := 0, locals := 91 } D (TY cI cG cC cR) [.ref (h 0), .int va, .int vb] (MW h cI now past (nI k) bef tri tex typed ati) (fun (u : Nat → Int32) => MW h cI (fnN now (gbA now va vb).2 (gbA now va vb).1) (fnP past k now (gbA now va vb).1) (nI (fnK k (gbA now va vb).1)) u tri tex typed ati) (fun (r : Int32) (u : Nat → Int32) => r = (gbA now va vb).1) := by
  refine CtI.of (cc := cX4_giveBack) (maxL := 3) (ty := .int) (by decide) rfl (Nat.le_of_ble_eq_true rfl) ?_
  intro P0 e0 s0 m0 a0 b0 t0 c0 A0 Q0 ls F hK hP hD hA RETN hl
  obtain ⟨hx, hb, hml, hown, hts⟩ := id F
  have hS : va_S A0 s0.heap s0.heap [] := va_S.rf
  have hl : lv_has ls 3 [(0, .ref (h 0)), (1, .int va), (2, .int vb)] := hl
  refine lv_aload_n hx hb dX4_giveBack_0 rfl (lv_at hl 0 rfl) ?_
  refine cl_Vv (b := (h 0)) (As := []) (rest := []) (wc := MW h cI now past (nI k) bef tri tex typed ati) (wsN := fun (_ : Unit) => MW h cI now past (nI k) now tri tex typed ati) F hK hA hP hD hS (c_X4_notes) (cwV 0 hts gX4_giveBack_X4_notes rfl rfl rfl (by decide +kernel) ⟨Nat.le_of_ble_eq_true rfl, Nat.le_of_ble_eq_true rfl⟩) [0, 1, 2, 3, 4, 5] [] [0, 1, 2, 3, 4, 5] ([]) rfl rfl (fun _ => rfl) (by decide) (by decide) 0 rfl rfl rfl hl.1 rfl (Nat.le_of_ble_eq_true rfl) ⟨Nat.zero_le _, Nat.zero_le _⟩ dX4_giveBack_1 (fun _ H locs hw_1 hP hD hS => ?_)
  try dsimp only at hw_1 hP hD
  refine lv_aload_n hx hb dX4_giveBack_4 rfl (lv_at hl 0 rfl) ?_
  refine lv_aload_n hx hb dX4_giveBack_5 rfl (lv_at hl 0 rfl) ?_
  refine lv_iload_n hx hb dX4_giveBack_6 rfl (lv_at hl 1 rfl) ?_
  refine lv_iload_n hx hb dX4_giveBack_7 rfl (lv_at hl 2 rfl) ?_
  refine cl_Vi (b := (h 0)) (As := [.int va, .int vb]) (rest := [.ref (h 0)]) (wc := MW h cI now past (nI k) now tri tex typed ati) (wsN := fun (u1 : Nat → Int32) => MW h cI u1 past (nI k) now tri tex typed ati) F hK hA hP hD hS (c_X4_givesBack) (cwV 2 hts gX4_giveBack_X4_givesBack rfl rfl rfl (by decide +kernel) ⟨Nat.le_of_ble_eq_true rfl, Nat.le_of_ble_eq_true rfl⟩) [0, 1, 2, 3, 4, 5] [] [0, 1, 2, 3, 4, 5] ([]) rfl rfl (fun _ => rfl) (by decide) (by decide) 0 rfl rfl rfl hl.1 rfl (Nat.le_of_ble_eq_true rfl) ⟨Nat.zero_le _, Nat.zero_le _⟩ dX4_giveBack_8 (fun r1 u1 H locs hw_3 hP hD hS => ?_)
  try dsimp only at hw_3 hP hD
  obtain ⟨rfl, rfl⟩ := hw_3
  have hP : va_P D vwCl (MW h cI ((gbA now va vb).2) past (nI k) now tri tex typed ati) H := hP
  have hD : va_D A0 (MW h cI ((gbA now va vb).2) past (nI k) now tri tex typed ati) := hD
  refine cl_Vi (b := (h 0)) (As := [.int ((gbA now va vb).1)]) (rest := []) (wc := MW h cI ((gbA now va vb).2) past (nI k) now tri tex typed ati) (wsN := fun (_ : Unit) => MW h cI (fnN now (gbA now va vb).2 (gbA now va vb).1) (fnP past k now (gbA now va vb).1) (nI (fnK k (gbA now va vb).1)) now tri tex typed ati) F hK hA hP hD hS (c_X4_ends hk) (cwV 1 hts gX4_giveBack_X4_ends rfl rfl rfl (by decide +kernel) ⟨Nat.le_of_ble_eq_true rfl, Nat.le_of_ble_eq_true rfl⟩) [0, 1, 2, 3, 4, 5] [] [0, 1, 2, 3, 4, 5] ([]) rfl rfl (fun _ => rfl) (by decide) (by decide) 0 rfl rfl rfl hl.1 rfl (Nat.le_of_ble_eq_true rfl) ⟨Nat.zero_le _, Nat.zero_le _⟩ dX4_giveBack_11 (fun r_6 _ H locs hw_5 hP hD hS => ?_)
  try dsimp only at hw_5 hP hD
  obtain rfl : r_6 = ((gbA now va vb).1) := hw_5
  exact RETN _ _ ((gbA now va vb).1) now _ _ dX4_giveBack_14 (rfl) (rfl) hP hD hS
set_option maxHeartbeats 4000000 in
set_option maxRecDepth 100000 in
theorem c_X4_clearsSome {l : Launch} {D : va_G} {cI cG cC cR : ClassId} {h : Nat → Nat} {now past bef tri tex : Nat → Int32} {pasts typed ati : Int32} {v : Int32} : CtI l yX4_clearsSome wsX4_clearsSome { frames := 4, cells := 0, slots := 0, locals := 92 } D (TY cI cG cC cR) [.ref (h 0), .int v] (MW h cI now past pasts bef tri tex typed ati) (fun (u : Nat → Int32) => MW h cI u past pasts bef tri tex typed ati) (fun (r : Int32) (u : Nat → Int32) => r = (clA now v).1 ∧ u = (clA now v).2) := by
  refine CtI.of (cc := cX4_clearsSome) (maxL := 2) (ty := .int) (by decide) rfl (Nat.le_of_ble_eq_true rfl) ?_
  intro P0 e0 s0 m0 a0 b0 t0 c0 A0 Q0 ls F hK hP hD hA RETN hl
  obtain ⟨hx, hb, hml, hown, hts⟩ := id F
  have hS : va_S A0 s0.heap s0.heap [] := va_S.rf
  have hl : lv_has ls 2 [(0, .ref (h 0)), (1, .int v)] := hl
  refine lv_iload_n hx hb dX4_clearsSome_0 rfl (lv_at hl 1 rfl) ?_
  refine lv_iconst (v := (nI 1)) hx hb dX4_clearsSome_1 (by decide) ?_
  refine lv_bipush (v := (nI 10)) hx hb dX4_clearsSome_2 (by decide) ?_
  refine cl_S0 (As := [.int v, .int (nI 1), .int (nI 10)]) (rest := []) F hK hA hP hD hS (c_X4_in) (va_cwS 3 hts gX4_clearsSome_X4_in rfl rfl rfl (by decide +kernel) ⟨Nat.le_of_ble_eq_true rfl, Nat.le_of_ble_eq_true rfl⟩) rfl hl.1 rfl (Nat.le_of_ble_eq_true rfl) ⟨Nat.zero_le _, Nat.zero_le _⟩ dX4_clearsSome_4 (fun r_1 H locs hw_2 hP hS => ?_)
  try dsimp only at hw_2
  obtain rfl : r_1 = (bI (inB v (nI 1) (nI 10))) := hw_2
  refine lv_if_eq (tgt := 18) hx hb dX4_clearsSome_7 (by decide) (fun c7 => ?_) (fun c7 => ?_)
  · skip
    replace c7 : (bI (inB v (nI 1) (nI 10))) = nI 0 := c7
    refine lv_iconst (v := (-1)) hx hb dX4_clearsSome_18 (by decide) ?_
    exact RETN _ _ (-1) now _ _ dX4_clearsSome_19 (rfl) (by first | (rw [clA_n (bI_cf c7)]; exact ⟨rfl, rfl⟩) | (rw [clA_s (by omega) (by omega)]; exact ⟨rfl, rfl⟩)) hP hD hS
  · skip
    replace c7 : ¬ (bI (inB v (nI 1) (nI 10))) = nI 0 := c7
    obtain ⟨m, hlo_m, hhi_m, rfl⟩ := inB_nat (by omega) (by omega) (bI_ct c7)
    refine lv_aload_n hx hb dX4_clearsSome_10 rfl (lv_at hl 0 rfl) ?_
    refine lv_iload_n hx hb dX4_clearsSome_11 rfl (lv_at hl 1 rfl) ?_
    refine cl_Vi (b := (h 0)) (As := [.int (nI m)]) (rest := []) (wc := MW h cI now past pasts bef tri tex typed ati) (wsN := fun (u1 : Nat → Int32) => MW h cI u1 past pasts bef tri tex typed ati) F hK hA hP hD hS (c_X4_clears (by omega) (by omega)) (cwV 1 hts gX4_clearsSome_X4_clears rfl rfl rfl (by decide +kernel) ⟨Nat.le_of_ble_eq_true rfl, Nat.le_of_ble_eq_true rfl⟩) [0, 1, 2, 3, 4, 5] [] [0, 1, 2, 3, 4, 5] ([]) rfl rfl (fun _ => rfl) (by decide) (by decide) 0 rfl rfl rfl hl.1 rfl (Nat.le_of_ble_eq_true rfl) ⟨Nat.zero_le _, Nat.zero_le _⟩ dX4_clearsSome_12 (fun r1 u1 H locs hw_3 hP hD hS => ?_)
    try dsimp only at hw_3 hP hD
    obtain ⟨rfl, rfl⟩ := hw_3
    have hP : va_P D vwCl (MW h cI (clF now m) past pasts bef tri tex typed ati) H := hP
    have hD : va_D A0 (MW h cI (clF now m) past pasts bef tri tex typed ati) := hD
    refine lv_goto (tgt := 19) hx hb dX4_clearsSome_15 (by decide) ?_
    exact RETN _ _ (nI (clN now m)) (clF now m) _ _ dX4_clearsSome_19 (rfl) (by first | (rw [clA_n (bI_cf c7)]; exact ⟨rfl, rfl⟩) | (rw [clA_s (by omega) (by omega)]; exact ⟨rfl, rfl⟩)) hP hD hS
set_option maxHeartbeats 4000000 in
set_option maxRecDepth 100000 in
theorem c_X4_clear {l : Launch} {D : va_G} {cI cG cC cR : ClassId} {h : Nat → Nat} {now past bef tri tex : Nat → Int32} {typed ati : Int32} {k : Nat} (hk : k ≤ 5) {v : Int32} : CtI l yX4_clear wsX4_clear { frames := 5, cells := 0, slots := 0, locals := 113 } D (TY cI cG cC cR) [.ref (h 0), .int v] (MW h cI now past (nI k) bef tri tex typed ati) (fun (u : Nat → Int32) => MW h cI (fnN now (clA now v).2 (clA now v).1) (fnP past k now (clA now v).1) (nI (fnK k (clA now v).1)) u tri tex typed ati) (fun (r : Int32) (u : Nat → Int32) => r = (clA now v).1) := by
  refine CtI.of (cc := cX4_clear) (maxL := 2) (ty := .int) (by decide) rfl (Nat.le_of_ble_eq_true rfl) ?_
  intro P0 e0 s0 m0 a0 b0 t0 c0 A0 Q0 ls F hK hP hD hA RETN hl
  obtain ⟨hx, hb, hml, hown, hts⟩ := id F
  have hS : va_S A0 s0.heap s0.heap [] := va_S.rf
  have hl : lv_has ls 2 [(0, .ref (h 0)), (1, .int v)] := hl
  refine lv_aload_n hx hb dX4_clear_0 rfl (lv_at hl 0 rfl) ?_
  refine cl_Vv (b := (h 0)) (As := []) (rest := []) (wc := MW h cI now past (nI k) bef tri tex typed ati) (wsN := fun (_ : Unit) => MW h cI now past (nI k) now tri tex typed ati) F hK hA hP hD hS (c_X4_notes) (cwV 0 hts gX4_clear_X4_notes rfl rfl rfl (by decide +kernel) ⟨Nat.le_of_ble_eq_true rfl, Nat.le_of_ble_eq_true rfl⟩) [0, 1, 2, 3, 4, 5] [] [0, 1, 2, 3, 4, 5] ([]) rfl rfl (fun _ => rfl) (by decide) (by decide) 0 rfl rfl rfl hl.1 rfl (Nat.le_of_ble_eq_true rfl) ⟨Nat.zero_le _, Nat.zero_le _⟩ dX4_clear_1 (fun _ H locs hw_1 hP hD hS => ?_)
  try dsimp only at hw_1 hP hD
  refine lv_aload_n hx hb dX4_clear_4 rfl (lv_at hl 0 rfl) ?_
  refine lv_aload_n hx hb dX4_clear_5 rfl (lv_at hl 0 rfl) ?_
  refine lv_iload_n hx hb dX4_clear_6 rfl (lv_at hl 1 rfl) ?_
  refine cl_Vi (b := (h 0)) (As := [.int v]) (rest := [.ref (h 0)]) (wc := MW h cI now past (nI k) now tri tex typed ati) (wsN := fun (u1 : Nat → Int32) => MW h cI u1 past (nI k) now tri tex typed ati) F hK hA hP hD hS (c_X4_clearsSome) (cwV 1 hts gX4_clear_X4_clearsSome rfl rfl rfl (by decide +kernel) ⟨Nat.le_of_ble_eq_true rfl, Nat.le_of_ble_eq_true rfl⟩) [0, 1, 2, 3, 4, 5] [] [0, 1, 2, 3, 4, 5] ([]) rfl rfl (fun _ => rfl) (by decide) (by decide) 0 rfl rfl rfl hl.1 rfl (Nat.le_of_ble_eq_true rfl) ⟨Nat.zero_le _, Nat.zero_le _⟩ dX4_clear_7 (fun r1 u1 H locs hw_3 hP hD hS => ?_)
  try dsimp only at hw_3 hP hD
  obtain ⟨rfl, rfl⟩ := hw_3
  have hP : va_P D vwCl (MW h cI ((clA now v).2) past (nI k) now tri tex typed ati) H := hP
  have hD : va_D A0 (MW h cI ((clA now v).2) past (nI k) now tri tex typed ati) := hD
  refine cl_Vi (b := (h 0)) (As := [.int ((clA now v).1)]) (rest := []) (wc := MW h cI ((clA now v).2) past (nI k) now tri tex typed ati) (wsN := fun (_ : Unit) => MW h cI (fnN now (clA now v).2 (clA now v).1) (fnP past k now (clA now v).1) (nI (fnK k (clA now v).1)) now tri tex typed ati) F hK hA hP hD hS (c_X4_ends hk) (cwV 1 hts gX4_clear_X4_ends rfl rfl rfl (by decide +kernel) ⟨Nat.le_of_ble_eq_true rfl, Nat.le_of_ble_eq_true rfl⟩) [0, 1, 2, 3, 4, 5] [] [0, 1, 2, 3, 4, 5] ([]) rfl rfl (fun _ => rfl) (by decide) (by decide) 0 rfl rfl rfl hl.1 rfl (Nat.le_of_ble_eq_true rfl) ⟨Nat.zero_le _, Nat.zero_le _⟩ dX4_clear_10 (fun r_6 _ H locs hw_5 hP hD hS => ?_)
  try dsimp only at hw_5 hP hD
  obtain rfl : r_6 = ((clA now v).1) := hw_5
  exact RETN _ _ ((clA now v).1) now _ _ dX4_clear_13 (rfl) (rfl) hP hD hS
set_option maxHeartbeats 4000000 in
set_option maxRecDepth 100000 in
theorem c_X4_isBlock {l : Launch} {D : va_G} {cI cG cC cR : ClassId} {h : Nat → Nat} {now past bef tri tex : Nat → Int32} {pasts typed ati : Int32} {v : Int32} : CtI l yX4_isBlock wsX4_isBlock { frames := 1, cells := 0, slots := 0, locals := 22 } D (TY cI cG cC cR) [.ref (h 0), .int v] (MW h cI now past pasts bef tri tex typed ati) (fun (_ : Unit) => MW h cI now past pasts bef tri tex typed ati) (fun (r : Int32) (_ : Unit) => r = bI (isB now v)) := by
  refine CtI.of (cc := cX4_isBlock) (maxL := 2) (ty := .boolean) (by decide) rfl (Nat.le_of_ble_eq_true rfl) ?_
  intro P0 e0 s0 m0 a0 b0 t0 c0 A0 Q0 ls F hK hP hD hA RETN hl
  obtain ⟨hx, hb, hml, hown, hts⟩ := id F
  have hS : va_S A0 s0.heap s0.heap [] := va_S.rf
  have hl : lv_has ls 2 [(0, .ref (h 0)), (1, .int v)] := hl
  have lk7 := hts (.fieldLink RX4 7 "SlotMapsModel" "now" "[I") (by decide +kernel)
  have hI4 : ∀ w ∈ u_ws RX4 TX4 8, w ∈ wsX4_isBlock := by decide +kernel
  refine lv_iload_n hx hb dX4_isBlock_0 rfl (lv_at hl 1 rfl) ?_
  refine lv_iconst (v := (nI 0)) hx hb dX4_isBlock_1 (by decide) ?_
  refine lv_bipush (v := (nI 7)) hx hb dX4_isBlock_2 (by decide) ?_
  refine cl_S0 (As := [.int v, .int (nI 0), .int (nI 7)]) (rest := []) F hK hA hP hD hS (c_X4_in) (va_cwS 3 hts gX4_isBlock_X4_in rfl rfl rfl (by decide +kernel) ⟨Nat.le_of_ble_eq_true rfl, Nat.le_of_ble_eq_true rfl⟩) rfl hl.1 rfl (Nat.le_of_ble_eq_true rfl) ⟨Nat.zero_le _, Nat.zero_le _⟩ dX4_isBlock_4 (fun r_1 H locs hw_2 hP hS => ?_)
  try dsimp only at hw_2
  obtain rfl : r_1 = (bI (inB v (nI 0) (nI 7))) := hw_2
  refine lv_if_eq (tgt := 31) hx hb dX4_isBlock_7 (by decide) (fun c7 => ?_) (fun c7 => ?_)
  · skip
    replace c7 : (bI (inB v (nI 0) (nI 7))) = nI 0 := c7
    refine lv_iconst (v := (nI 0)) hx hb dX4_isBlock_31 (by decide) ?_
    exact RETN _ _ (nI 0) () _ _ dX4_isBlock_32 (rfl) (bI_f (isB_n (bI_cf c7))) hP hD hS
  · skip
    replace c7 : ¬ (bI (inB v (nI 0) (nI 7))) = nI 0 := c7
    obtain ⟨kb, hlo_kb, hhi_kb, rfl⟩ := inB_nat (by omega) (by omega) (bI_ct c7)
    refine lv_aload_n hx hb dX4_isBlock_10 rfl (lv_at hl 0 rfl) ?_
    refine va_get (D := D) (ci := 4) (v := .ref (h 1)) (C := RX4) (T := TX4) (N := 8) hx hb hts hI4 hown hK.1 hP 0 rfl rfl 0 (by decide) lk7 (fun _ h9 => h9) rfl dX4_isBlock_11 ?_
    refine lv_sipush (v := (nI 650)) hx hb dX4_isBlock_14 (by decide) ?_
    refine lv_iconst (v := (nI 2)) hx hb dX4_isBlock_17 (by decide) ?_
    refine lv_iload_n hx hb dX4_isBlock_18 rfl (lv_at hl 1 rfl) ?_
    refine lv_imul hx hb dX4_isBlock_19 ?_
    refine n_as (x' := nI (2 * kb)) (pk_mul _ _) ?_
    refine lv_iadd hx hb dX4_isBlock_20 ?_
    refine n_as (x' := nI (650 + (2 * kb))) (nI_add _ _) ?_
    refine lv_iconst (v := (nI 1)) hx hb dX4_isBlock_21 (by decide) ?_
    refine lv_iadd hx hb dX4_isBlock_22 ?_
    refine n_as (x' := nI ((650 + (2 * kb)) + 1)) (nI_add _ _) ?_
    refine n_iald hx hb hK hP 1 0 rfl rfl (by decide) (by omega) dX4_isBlock_23 ?_
    refine lv_if_le (tgt := 31) hx hb dX4_isBlock_24 (by decide) (fun c24 => ?_) (fun c24 => ?_)
    · skip
      refine lv_iconst (v := (nI 0)) hx hb dX4_isBlock_31 (by decide) ?_
      exact RETN _ _ (nI 0) () _ _ dX4_isBlock_32 (rfl) (bI_f (by rw [isB_k (by omega)]; exact decide_eq_false (le0y c24))) hP hD hS
    · skip
      refine lv_iconst (v := (nI 1)) hx hb dX4_isBlock_27 (by decide) ?_
      refine lv_goto (tgt := 32) hx hb dX4_isBlock_28 (by decide) ?_
      exact RETN _ _ (nI 1) () _ _ dX4_isBlock_32 (rfl) (bI_t (by rw [isB_k (by omega)]; exact decide_eq_true (le0n c24))) hP hD hS
set_option maxHeartbeats 4000000 in
set_option maxRecDepth 100000 in
theorem c_X4_isSize {l : Launch} {D : va_G} {cI cG cC cR : ClassId} {v : Int32} : CtI l yX4_isSize wsX4_isSize { frames := 0, cells := 0, slots := 0, locals := 0 } D (TY cI cG cC cR) [.int v] ([]) (fun (_ : Unit) => []) (fun (r : Int32) (_ : Unit) => r = bI (szB v)) := by
  refine CtI.of (cc := cX4_isSize) (maxL := 1) (ty := .boolean) (by decide) rfl (Nat.le_of_ble_eq_true rfl) ?_
  intro P0 e0 s0 m0 a0 b0 t0 c0 A0 Q0 ls F hK hP hD hA RETN hl
  obtain ⟨hx, hb, hml, hown, hts⟩ := id F
  have hS : va_S A0 s0.heap s0.heap [] := va_S.rf
  have hl : lv_has ls 1 [(0, .int v)] := hl
  refine lv_iload_n hx hb dX4_isSize_0 rfl (lv_at hl 0 rfl) ?_
  refine lv_iconst (v := (nI 4)) hx hb dX4_isSize_1 (by decide) ?_
  refine lv_icmp_eq (tgt := 23) hx hb dX4_isSize_2 (by decide) (fun c2 => ?_) (fun c2 => ?_)
  · skip
    refine lv_iconst (v := (nI 1)) hx hb dX4_isSize_23 (by decide) ?_
    refine lv_goto (tgt := 28) hx hb dX4_isSize_24 (by decide) ?_
    exact RETN _ _ (nI 1) () _ _ dX4_isSize_28 (rfl) (bI_t (by simp [szB, c2])) hP hD hS
  · skip
    refine lv_iload_n hx hb dX4_isSize_5 rfl (lv_at hl 0 rfl) ?_
    refine lv_bipush (v := (nI 8)) hx hb dX4_isSize_6 (by decide) ?_
    refine lv_icmp_eq (tgt := 23) hx hb dX4_isSize_8 (by decide) (fun c8 => ?_) (fun c8 => ?_)
    · skip
      refine lv_iconst (v := (nI 1)) hx hb dX4_isSize_23 (by decide) ?_
      refine lv_goto (tgt := 28) hx hb dX4_isSize_24 (by decide) ?_
      exact RETN _ _ (nI 1) () _ _ dX4_isSize_28 (rfl) (bI_t (by simp [szB, c8])) hP hD hS
    · skip
      refine lv_iload_n hx hb dX4_isSize_11 rfl (lv_at hl 0 rfl) ?_
      refine lv_bipush (v := (nI 16)) hx hb dX4_isSize_12 (by decide) ?_
      refine lv_icmp_eq (tgt := 23) hx hb dX4_isSize_14 (by decide) (fun c14 => ?_) (fun c14 => ?_)
      · skip
        refine lv_iconst (v := (nI 1)) hx hb dX4_isSize_23 (by decide) ?_
        refine lv_goto (tgt := 28) hx hb dX4_isSize_24 (by decide) ?_
        exact RETN _ _ (nI 1) () _ _ dX4_isSize_28 (rfl) (bI_t (by simp [szB, c14])) hP hD hS
      · skip
        refine lv_iload_n hx hb dX4_isSize_17 rfl (lv_at hl 0 rfl) ?_
        refine lv_bipush (v := (nI 32)) hx hb dX4_isSize_18 (by decide) ?_
        refine lv_icmp_ne (tgt := 27) hx hb dX4_isSize_20 (by decide) (fun c20 => ?_) (fun c20 => ?_)
        · skip
          refine lv_iconst (v := (nI 0)) hx hb dX4_isSize_27 (by decide) ?_
          exact RETN _ _ (nI 0) () _ _ dX4_isSize_28 (rfl) (bI_f (by simp [szB, c2, c8, c14, c20])) hP hD hS
        · skip
          refine lv_iconst (v := (nI 1)) hx hb dX4_isSize_23 (by decide) ?_
          refine lv_goto (tgt := 28) hx hb dX4_isSize_24 (by decide) ?_
          exact RETN _ _ (nI 1) () _ _ dX4_isSize_28 (rfl) (bI_t (by simp [szB, c20])) hP hD hS
set_option maxHeartbeats 4000000 in
set_option maxRecDepth 100000 in
theorem c_X4_placeOf {l : Launch} {D : va_G} {cI cG cC cR : ClassId} {h : Nat → Nat} {now past bef tri tex : Nat → Int32} {pasts typed ati : Int32} {z : Nat} (hz : okz z) : CtI l yX4_placeOf wsX4_placeOf { frames := 0, cells := 0, slots := 0, locals := 0 } D (TY cI cG cC cR) [.ref (h 0), .int (nI z)] (MW h cI now past pasts bef tri tex typed ati) (fun (_ : Unit) => MW h cI now past pasts bef tri tex typed ati) (fun (r : Int32) (_ : Unit) => r = oI (pl now z)) := by
  refine CtI.of (cc := cX4_placeOf) (maxL := 5) (ty := .int) (by decide) rfl (Nat.le_of_ble_eq_true rfl) ?_
  intro P0 e0 s0 m0 a0 b0 t0 c0 A0 Q0 ls F hK hP hD hA RETN hl
  obtain ⟨hx, hb, hml, hown, hts⟩ := id F
  have hS : va_S A0 s0.heap s0.heap [] := va_S.rf
  have hl : lv_has ls 5 [(0, .ref (h 0)), (1, .int (nI z))] := hl
  have lk7 := hts (.fieldLink RX4 7 "SlotMapsModel" "now" "[I") (by decide +kernel)
  have hI4 : ∀ w ∈ u_ws RX4 TX4 8, w ∈ wsX4_placeOf := by decide +kernel
  rcases hz with rfl | rfl | rfl | rfl
  ·
    skip
    refine lv_iconst (v := (nI 0)) hx hb dX4_placeOf_0 (by decide) ?_
    refine lv_istore_n (lv' := [(2, .int (nI 0)), (0, .ref (h 0)), (1, .int (nI 4))]) hx hb dX4_placeOf_1 rfl hl (by decide) rfl (fun ls hl => ?_)
    have LP2 : ∀ (nn : Nat) (q : Nat) (H : Heap) (locs : List Loc) (ls : Array Slot), q ≤ 80 → ls1 (plq now 4) 80 0 = ls1 (plq now 4) (80 - q) q → 80 - q < nn → va_P D vwCl (MW h cI now past pasts bef tri tex typed ati) H → va_D A0 (MW h cI now past pasts bef tri tex typed ati) → va_S A0 s0.heap H locs → lv_has ls 5 [(2, .int (nI (4 * q))), (0, .ref (h 0)), (1, .int (nI 4))] → W P0 l e0 { frames := 0, cells := 0, slots := 0, locals := 0 } s0 m0 a0 b0 t0 c0 H locs 0 0 Q0 (F0 m0 2 ls []) := by
      intro nn
      induction nn with
      | zero => intro q H locs ls hq ha hmu; exact absurd hmu (Nat.not_lt_zero _)
      | succ nn ih2 =>
        intro q H locs ls hq ha hmu2 hP hD hS hl
        refine lv_iload_n hx hb dX4_placeOf_2 rfl (lv_at hl 0 rfl) ?_
        refine lv_sipush (v := (nI 320)) hx hb dX4_placeOf_3 (by decide) ?_
        refine lv_icmp_ge (tgt := 60) hx hb dX4_placeOf_6 (by decide) (fun c6 => ?_) (fun c6 => ?_)
        · skip
          replace c6 : 320 ≤ (4 * q) := by rw [nI_leI (by omega) (by omega)] at c6; exact c6
          refine lv_bipush (v := (-9)) hx hb dX4_placeOf_60 (by decide) ?_
          exact RETN _ _ (-9) () _ _ dX4_placeOf_62 (rfl) (by unfold pl; rw [show 320 / 4 = 80 from rfl, ha, ls1_end _ (by omega)]; rfl) hP hD hS
        · skip
          replace c6 : ¬ (320 ≤ (4 * q)) := by rw [nI_leI (by omega) (by omega)] at c6; exact c6
          refine lv_iconst (v := (nI 0)) hx hb dX4_placeOf_9 (by decide) ?_
          refine lv_istore_n (lv' := [(3, .int (nI 0)), (2, .int (nI (4 * q))), (0, .ref (h 0)), (1, .int (nI 4))]) hx hb dX4_placeOf_10 rfl hl (by decide) rfl (fun ls hl => ?_)
          refine lv_iload_n hx hb dX4_placeOf_11 rfl (lv_at hl 1 rfl) ?_
          refine lv_istore (lv' := [(4, .int (nI (4 * q))), (3, .int (nI 0)), (2, .int (nI (4 * q))), (0, .ref (h 0)), (1, .int (nI 4))]) hx hb dX4_placeOf_12 hl (by decide) rfl (fun ls hl => ?_)
          have LP14 : ∀ (nn : Nat) (i : Nat) (n : Nat) (H : Heap) (locs : List Loc) (ls : Array Slot), i ≤ 4 → n = fb_ct (fun i => fr now (4 * q + i)) i → 4 - i < nn → va_P D vwCl (MW h cI now past pasts bef tri tex typed ati) H → va_D A0 (MW h cI now past pasts bef tri tex typed ati) → va_S A0 s0.heap H locs → lv_has ls 5 [(4, .int (nI (4 * q + i))), (3, .int (nI n)), (2, .int (nI (4 * q))), (0, .ref (h 0)), (1, .int (nI 4))] → W P0 l e0 { frames := 0, cells := 0, slots := 0, locals := 0 } s0 m0 a0 b0 t0 c0 H locs 0 0 Q0 (F0 m0 14 ls []) := by
            intro nn
            induction nn with
            | zero => intro i n H locs ls hi hn hmu; exact absurd hmu (Nat.not_lt_zero _)
            | succ nn ih14 =>
              intro i n H locs ls hi hn hmu14 hP hD hS hl
              have hnl := fb_ct_le (fun i => fr now (4 * q + i)) i
              refine lv_iload hx hb dX4_placeOf_14 (lv_at hl 0 rfl) ?_
              refine lv_iload_n hx hb dX4_placeOf_16 rfl (lv_at hl 2 rfl) ?_
              refine lv_iload_n hx hb dX4_placeOf_17 rfl (lv_at hl 4 rfl) ?_
              refine lv_iadd hx hb dX4_placeOf_18 ?_
              refine n_as (x' := nI ((4 * q) + 4)) (nI_add _ _) ?_
              refine lv_icmp_ge (tgt := 46) hx hb dX4_placeOf_19 (by decide) (fun c19 => ?_) (fun c19 => ?_)
              · skip
                replace c19 : ((4 * q) + 4) ≤ (4 * q + i) := by rw [nI_leI (by omega) (by omega)] at c19; exact c19
                have hn4 : n = fb_ct (fun i => fr now (4 * q + i)) 4 := by rw [hn, show i = 4 by omega]
                refine lv_iload_n hx hb dX4_placeOf_46 rfl (lv_at hl 1 rfl) ?_
                refine lv_iload_n hx hb dX4_placeOf_47 rfl (lv_at hl 4 rfl) ?_
                refine lv_icmp_ne (tgt := 53) hx hb dX4_placeOf_48 (by decide) (fun c48 => ?_) (fun c48 => ?_)
                · skip
                  replace c48 : ¬ n = 4 := by rw [nI_eq (by omega) (by omega)] at c48; exact c48
                  refine lv_iload_n hx hb dX4_placeOf_53 rfl (lv_at hl 2 rfl) ?_
                  refine lv_iload_n hx hb dX4_placeOf_54 rfl (lv_at hl 4 rfl) ?_
                  refine lv_iadd hx hb dX4_placeOf_55 ?_
                  refine n_as (x' := (nI (4 * (q + 1)))) (by rw [nI_add]; exact congrArg nI (by omega)) ?_
                  refine lv_istore_n (lv' := [(2, .int (nI (4 * (q + 1)))), (4, .int (nI (4 * q + i))), (3, .int (nI n)), (0, .ref (h 0)), (1, .int (nI 4))]) hx hb dX4_placeOf_56 rfl hl (by decide) rfl (fun ls hl => ?_)
                  refine lv_goto (tgt := 2) hx hb dX4_placeOf_57 (by decide) ?_
                  exact ih2 (q + 1) _ _ _ (by omega) (by rw [ha, ls1_no (by omega) (by unfold plq; rw [← hn4]; exact decide_eq_false (by omega))]) (by omega) hP hD hS (lv_sub hl [0, 3, 4] rfl)
                · skip
                  replace c48 : n = 4 := by rw [nI_eq (by omega) (by omega)] at c48; exact c48
                  refine lv_iload_n hx hb dX4_placeOf_51 rfl (lv_at hl 2 rfl) ?_
                  exact RETN _ _ (nI (4 * q)) () _ _ dX4_placeOf_52 (rfl) (by unfold pl; rw [show 320 / 4 = 80 from rfl, ha, ls1_yes (by omega) (by unfold plq; rw [← hn4]; exact decide_eq_true (by omega))]; rfl) hP hD hS
              · skip
                replace c19 : ¬ (((4 * q) + 4) ≤ (4 * q + i)) := by rw [nI_leI (by omega) (by omega)] at c19; exact c19
                refine lv_iload_n hx hb dX4_placeOf_22 rfl (lv_at hl 1 rfl) ?_
                refine lv_aload_n hx hb dX4_placeOf_23 rfl (lv_at hl 3 rfl) ?_
                refine va_get (D := D) (ci := 4) (v := .ref (h 1)) (C := RX4) (T := TX4) (N := 8) hx hb hts hI4 hown hK.1 hP 0 rfl rfl 0 (by decide) lk7 (fun _ h9 => h9) rfl dX4_placeOf_24 ?_
                refine lv_iload hx hb dX4_placeOf_27 (lv_at hl 0 rfl) ?_
                refine n_iald hx hb hK hP 1 0 rfl rfl (by decide) (by omega) dX4_placeOf_29 ?_
                refine lv_if_ne (tgt := 37) hx hb dX4_placeOf_30 (by decide) (fun c30 => ?_) (fun c30 => ?_)
                · skip
                  replace c30 : ¬ (now (4 * q + i)) = nI 0 := c30
                  refine lv_iconst (v := (nI 0)) hx hb dX4_placeOf_37 (by decide) ?_
                  refine lv_iadd hx hb dX4_placeOf_38 ?_
                  refine n_as (x' := nI (n + 0)) (nI_add _ _) ?_
                  refine lv_istore_n (lv' := [(3, .int (nI (n + 0))), (4, .int (nI (4 * q + i))), (2, .int (nI (4 * q))), (0, .ref (h 0)), (1, .int (nI 4))]) hx hb dX4_placeOf_39 rfl hl (by decide) rfl (fun ls hl => ?_)
                  refine lv_iinc (v := (nI ((4 * q + i) + 1))) (lv' := [(4, .int (nI ((4 * q + i) + 1))), (3, .int (nI (n + 0))), (2, .int (nI (4 * q))), (0, .ref (h 0)), (1, .int (nI 4))]) hx hb dX4_placeOf_40 hl (k := 1) rfl (n_inc1 _) (by decide) rfl (fun ls hl => ?_)
                  refine lv_goto (tgt := 14) hx hb dX4_placeOf_43 (by decide) ?_
                  exact ih14 (i + 1) (n + 0) _ _ _ (by omega) (by rw [fb_ct_succ, ← hn]; simp [fr, c30]) (by omega) hP hD hS (lv_sub hl [0, 1, 2, 3, 4] rfl)
                · skip
                  replace c30 : (now (4 * q + i)) = nI 0 := c30
                  refine lv_iconst (v := (nI 1)) hx hb dX4_placeOf_33 (by decide) ?_
                  refine lv_goto (tgt := 38) hx hb dX4_placeOf_34 (by decide) ?_
                  refine lv_iadd hx hb dX4_placeOf_38 ?_
                  refine n_as (x' := nI (n + 1)) (nI_add _ _) ?_
                  refine lv_istore_n (lv' := [(3, .int (nI (n + 1))), (4, .int (nI (4 * q + i))), (2, .int (nI (4 * q))), (0, .ref (h 0)), (1, .int (nI 4))]) hx hb dX4_placeOf_39 rfl hl (by decide) rfl (fun ls hl => ?_)
                  refine lv_iinc (v := (nI ((4 * q + i) + 1))) (lv' := [(4, .int (nI ((4 * q + i) + 1))), (3, .int (nI (n + 1))), (2, .int (nI (4 * q))), (0, .ref (h 0)), (1, .int (nI 4))]) hx hb dX4_placeOf_40 hl (k := 1) rfl (n_inc1 _) (by decide) rfl (fun ls hl => ?_)
                  refine lv_goto (tgt := 14) hx hb dX4_placeOf_43 (by decide) ?_
                  exact ih14 (i + 1) (n + 1) _ _ _ (by omega) (by rw [fb_ct_succ, ← hn]; simp [fr, c30]) (by omega) hP hD hS (lv_sub hl [0, 1, 2, 3, 4] rfl)
          exact LP14 _ 0 0 _ _ _ (by omega) (rfl) (Nat.lt_succ_self _) hP hD hS (lv_sub hl [0, 1, 2, 3, 4] rfl)
    exact LP2 _ 0 _ _ _ (by omega) (rfl) (Nat.lt_succ_self _) hP hD hS (lv_sub hl [0, 1, 2] rfl)
  ·
    skip
    refine lv_iconst (v := (nI 0)) hx hb dX4_placeOf_0 (by decide) ?_
    refine lv_istore_n (lv' := [(2, .int (nI 0)), (0, .ref (h 0)), (1, .int (nI 8))]) hx hb dX4_placeOf_1 rfl hl (by decide) rfl (fun ls hl => ?_)
    have LP2 : ∀ (nn : Nat) (q : Nat) (H : Heap) (locs : List Loc) (ls : Array Slot), q ≤ 40 → ls1 (plq now 8) 40 0 = ls1 (plq now 8) (40 - q) q → 40 - q < nn → va_P D vwCl (MW h cI now past pasts bef tri tex typed ati) H → va_D A0 (MW h cI now past pasts bef tri tex typed ati) → va_S A0 s0.heap H locs → lv_has ls 5 [(2, .int (nI (8 * q))), (0, .ref (h 0)), (1, .int (nI 8))] → W P0 l e0 { frames := 0, cells := 0, slots := 0, locals := 0 } s0 m0 a0 b0 t0 c0 H locs 0 0 Q0 (F0 m0 2 ls []) := by
      intro nn
      induction nn with
      | zero => intro q H locs ls hq ha hmu; exact absurd hmu (Nat.not_lt_zero _)
      | succ nn ih2 =>
        intro q H locs ls hq ha hmu2 hP hD hS hl
        refine lv_iload_n hx hb dX4_placeOf_2 rfl (lv_at hl 0 rfl) ?_
        refine lv_sipush (v := (nI 320)) hx hb dX4_placeOf_3 (by decide) ?_
        refine lv_icmp_ge (tgt := 60) hx hb dX4_placeOf_6 (by decide) (fun c6 => ?_) (fun c6 => ?_)
        · skip
          replace c6 : 320 ≤ (8 * q) := by rw [nI_leI (by omega) (by omega)] at c6; exact c6
          refine lv_bipush (v := (-9)) hx hb dX4_placeOf_60 (by decide) ?_
          exact RETN _ _ (-9) () _ _ dX4_placeOf_62 (rfl) (by unfold pl; rw [show 320 / 8 = 40 from rfl, ha, ls1_end _ (by omega)]; rfl) hP hD hS
        · skip
          replace c6 : ¬ (320 ≤ (8 * q)) := by rw [nI_leI (by omega) (by omega)] at c6; exact c6
          refine lv_iconst (v := (nI 0)) hx hb dX4_placeOf_9 (by decide) ?_
          refine lv_istore_n (lv' := [(3, .int (nI 0)), (2, .int (nI (8 * q))), (0, .ref (h 0)), (1, .int (nI 8))]) hx hb dX4_placeOf_10 rfl hl (by decide) rfl (fun ls hl => ?_)
          refine lv_iload_n hx hb dX4_placeOf_11 rfl (lv_at hl 1 rfl) ?_
          refine lv_istore (lv' := [(4, .int (nI (8 * q))), (3, .int (nI 0)), (2, .int (nI (8 * q))), (0, .ref (h 0)), (1, .int (nI 8))]) hx hb dX4_placeOf_12 hl (by decide) rfl (fun ls hl => ?_)
          have LP14 : ∀ (nn : Nat) (i : Nat) (n : Nat) (H : Heap) (locs : List Loc) (ls : Array Slot), i ≤ 8 → n = fb_ct (fun i => fr now (8 * q + i)) i → 8 - i < nn → va_P D vwCl (MW h cI now past pasts bef tri tex typed ati) H → va_D A0 (MW h cI now past pasts bef tri tex typed ati) → va_S A0 s0.heap H locs → lv_has ls 5 [(4, .int (nI (8 * q + i))), (3, .int (nI n)), (2, .int (nI (8 * q))), (0, .ref (h 0)), (1, .int (nI 8))] → W P0 l e0 { frames := 0, cells := 0, slots := 0, locals := 0 } s0 m0 a0 b0 t0 c0 H locs 0 0 Q0 (F0 m0 14 ls []) := by
            intro nn
            induction nn with
            | zero => intro i n H locs ls hi hn hmu; exact absurd hmu (Nat.not_lt_zero _)
            | succ nn ih14 =>
              intro i n H locs ls hi hn hmu14 hP hD hS hl
              have hnl := fb_ct_le (fun i => fr now (8 * q + i)) i
              refine lv_iload hx hb dX4_placeOf_14 (lv_at hl 0 rfl) ?_
              refine lv_iload_n hx hb dX4_placeOf_16 rfl (lv_at hl 2 rfl) ?_
              refine lv_iload_n hx hb dX4_placeOf_17 rfl (lv_at hl 4 rfl) ?_
              refine lv_iadd hx hb dX4_placeOf_18 ?_
              refine n_as (x' := nI ((8 * q) + 8)) (nI_add _ _) ?_
              refine lv_icmp_ge (tgt := 46) hx hb dX4_placeOf_19 (by decide) (fun c19 => ?_) (fun c19 => ?_)
              · skip
                replace c19 : ((8 * q) + 8) ≤ (8 * q + i) := by rw [nI_leI (by omega) (by omega)] at c19; exact c19
                have hn4 : n = fb_ct (fun i => fr now (8 * q + i)) 8 := by rw [hn, show i = 8 by omega]
                refine lv_iload_n hx hb dX4_placeOf_46 rfl (lv_at hl 1 rfl) ?_
                refine lv_iload_n hx hb dX4_placeOf_47 rfl (lv_at hl 4 rfl) ?_
                refine lv_icmp_ne (tgt := 53) hx hb dX4_placeOf_48 (by decide) (fun c48 => ?_) (fun c48 => ?_)
                · skip
                  replace c48 : ¬ n = 8 := by rw [nI_eq (by omega) (by omega)] at c48; exact c48
                  refine lv_iload_n hx hb dX4_placeOf_53 rfl (lv_at hl 2 rfl) ?_
                  refine lv_iload_n hx hb dX4_placeOf_54 rfl (lv_at hl 4 rfl) ?_
                  refine lv_iadd hx hb dX4_placeOf_55 ?_
                  refine n_as (x' := (nI (8 * (q + 1)))) (by rw [nI_add]; exact congrArg nI (by omega)) ?_
                  refine lv_istore_n (lv' := [(2, .int (nI (8 * (q + 1)))), (4, .int (nI (8 * q + i))), (3, .int (nI n)), (0, .ref (h 0)), (1, .int (nI 8))]) hx hb dX4_placeOf_56 rfl hl (by decide) rfl (fun ls hl => ?_)
                  refine lv_goto (tgt := 2) hx hb dX4_placeOf_57 (by decide) ?_
                  exact ih2 (q + 1) _ _ _ (by omega) (by rw [ha, ls1_no (by omega) (by unfold plq; rw [← hn4]; exact decide_eq_false (by omega))]) (by omega) hP hD hS (lv_sub hl [0, 3, 4] rfl)
                · skip
                  replace c48 : n = 8 := by rw [nI_eq (by omega) (by omega)] at c48; exact c48
                  refine lv_iload_n hx hb dX4_placeOf_51 rfl (lv_at hl 2 rfl) ?_
                  exact RETN _ _ (nI (8 * q)) () _ _ dX4_placeOf_52 (rfl) (by unfold pl; rw [show 320 / 8 = 40 from rfl, ha, ls1_yes (by omega) (by unfold plq; rw [← hn4]; exact decide_eq_true (by omega))]; rfl) hP hD hS
              · skip
                replace c19 : ¬ (((8 * q) + 8) ≤ (8 * q + i)) := by rw [nI_leI (by omega) (by omega)] at c19; exact c19
                refine lv_iload_n hx hb dX4_placeOf_22 rfl (lv_at hl 1 rfl) ?_
                refine lv_aload_n hx hb dX4_placeOf_23 rfl (lv_at hl 3 rfl) ?_
                refine va_get (D := D) (ci := 4) (v := .ref (h 1)) (C := RX4) (T := TX4) (N := 8) hx hb hts hI4 hown hK.1 hP 0 rfl rfl 0 (by decide) lk7 (fun _ h9 => h9) rfl dX4_placeOf_24 ?_
                refine lv_iload hx hb dX4_placeOf_27 (lv_at hl 0 rfl) ?_
                refine n_iald hx hb hK hP 1 0 rfl rfl (by decide) (by omega) dX4_placeOf_29 ?_
                refine lv_if_ne (tgt := 37) hx hb dX4_placeOf_30 (by decide) (fun c30 => ?_) (fun c30 => ?_)
                · skip
                  replace c30 : ¬ (now (8 * q + i)) = nI 0 := c30
                  refine lv_iconst (v := (nI 0)) hx hb dX4_placeOf_37 (by decide) ?_
                  refine lv_iadd hx hb dX4_placeOf_38 ?_
                  refine n_as (x' := nI (n + 0)) (nI_add _ _) ?_
                  refine lv_istore_n (lv' := [(3, .int (nI (n + 0))), (4, .int (nI (8 * q + i))), (2, .int (nI (8 * q))), (0, .ref (h 0)), (1, .int (nI 8))]) hx hb dX4_placeOf_39 rfl hl (by decide) rfl (fun ls hl => ?_)
                  refine lv_iinc (v := (nI ((8 * q + i) + 1))) (lv' := [(4, .int (nI ((8 * q + i) + 1))), (3, .int (nI (n + 0))), (2, .int (nI (8 * q))), (0, .ref (h 0)), (1, .int (nI 8))]) hx hb dX4_placeOf_40 hl (k := 1) rfl (n_inc1 _) (by decide) rfl (fun ls hl => ?_)
                  refine lv_goto (tgt := 14) hx hb dX4_placeOf_43 (by decide) ?_
                  exact ih14 (i + 1) (n + 0) _ _ _ (by omega) (by rw [fb_ct_succ, ← hn]; simp [fr, c30]) (by omega) hP hD hS (lv_sub hl [0, 1, 2, 3, 4] rfl)
                · skip
                  replace c30 : (now (8 * q + i)) = nI 0 := c30
                  refine lv_iconst (v := (nI 1)) hx hb dX4_placeOf_33 (by decide) ?_
                  refine lv_goto (tgt := 38) hx hb dX4_placeOf_34 (by decide) ?_
                  refine lv_iadd hx hb dX4_placeOf_38 ?_
                  refine n_as (x' := nI (n + 1)) (nI_add _ _) ?_
                  refine lv_istore_n (lv' := [(3, .int (nI (n + 1))), (4, .int (nI (8 * q + i))), (2, .int (nI (8 * q))), (0, .ref (h 0)), (1, .int (nI 8))]) hx hb dX4_placeOf_39 rfl hl (by decide) rfl (fun ls hl => ?_)
                  refine lv_iinc (v := (nI ((8 * q + i) + 1))) (lv' := [(4, .int (nI ((8 * q + i) + 1))), (3, .int (nI (n + 1))), (2, .int (nI (8 * q))), (0, .ref (h 0)), (1, .int (nI 8))]) hx hb dX4_placeOf_40 hl (k := 1) rfl (n_inc1 _) (by decide) rfl (fun ls hl => ?_)
                  refine lv_goto (tgt := 14) hx hb dX4_placeOf_43 (by decide) ?_
                  exact ih14 (i + 1) (n + 1) _ _ _ (by omega) (by rw [fb_ct_succ, ← hn]; simp [fr, c30]) (by omega) hP hD hS (lv_sub hl [0, 1, 2, 3, 4] rfl)
          exact LP14 _ 0 0 _ _ _ (by omega) (rfl) (Nat.lt_succ_self _) hP hD hS (lv_sub hl [0, 1, 2, 3, 4] rfl)
    exact LP2 _ 0 _ _ _ (by omega) (rfl) (Nat.lt_succ_self _) hP hD hS (lv_sub hl [0, 1, 2] rfl)
  ·
    skip
    refine lv_iconst (v := (nI 0)) hx hb dX4_placeOf_0 (by decide) ?_
    refine lv_istore_n (lv' := [(2, .int (nI 0)), (0, .ref (h 0)), (1, .int (nI 16))]) hx hb dX4_placeOf_1 rfl hl (by decide) rfl (fun ls hl => ?_)
    have LP2 : ∀ (nn : Nat) (q : Nat) (H : Heap) (locs : List Loc) (ls : Array Slot), q ≤ 20 → ls1 (plq now 16) 20 0 = ls1 (plq now 16) (20 - q) q → 20 - q < nn → va_P D vwCl (MW h cI now past pasts bef tri tex typed ati) H → va_D A0 (MW h cI now past pasts bef tri tex typed ati) → va_S A0 s0.heap H locs → lv_has ls 5 [(2, .int (nI (16 * q))), (0, .ref (h 0)), (1, .int (nI 16))] → W P0 l e0 { frames := 0, cells := 0, slots := 0, locals := 0 } s0 m0 a0 b0 t0 c0 H locs 0 0 Q0 (F0 m0 2 ls []) := by
      intro nn
      induction nn with
      | zero => intro q H locs ls hq ha hmu; exact absurd hmu (Nat.not_lt_zero _)
      | succ nn ih2 =>
        intro q H locs ls hq ha hmu2 hP hD hS hl
        refine lv_iload_n hx hb dX4_placeOf_2 rfl (lv_at hl 0 rfl) ?_
        refine lv_sipush (v := (nI 320)) hx hb dX4_placeOf_3 (by decide) ?_
        refine lv_icmp_ge (tgt := 60) hx hb dX4_placeOf_6 (by decide) (fun c6 => ?_) (fun c6 => ?_)
        · skip
          replace c6 : 320 ≤ (16 * q) := by rw [nI_leI (by omega) (by omega)] at c6; exact c6
          refine lv_bipush (v := (-9)) hx hb dX4_placeOf_60 (by decide) ?_
          exact RETN _ _ (-9) () _ _ dX4_placeOf_62 (rfl) (by unfold pl; rw [show 320 / 16 = 20 from rfl, ha, ls1_end _ (by omega)]; rfl) hP hD hS
        · skip
          replace c6 : ¬ (320 ≤ (16 * q)) := by rw [nI_leI (by omega) (by omega)] at c6; exact c6
          refine lv_iconst (v := (nI 0)) hx hb dX4_placeOf_9 (by decide) ?_
          refine lv_istore_n (lv' := [(3, .int (nI 0)), (2, .int (nI (16 * q))), (0, .ref (h 0)), (1, .int (nI 16))]) hx hb dX4_placeOf_10 rfl hl (by decide) rfl (fun ls hl => ?_)
          refine lv_iload_n hx hb dX4_placeOf_11 rfl (lv_at hl 1 rfl) ?_
          refine lv_istore (lv' := [(4, .int (nI (16 * q))), (3, .int (nI 0)), (2, .int (nI (16 * q))), (0, .ref (h 0)), (1, .int (nI 16))]) hx hb dX4_placeOf_12 hl (by decide) rfl (fun ls hl => ?_)
          have LP14 : ∀ (nn : Nat) (i : Nat) (n : Nat) (H : Heap) (locs : List Loc) (ls : Array Slot), i ≤ 16 → n = fb_ct (fun i => fr now (16 * q + i)) i → 16 - i < nn → va_P D vwCl (MW h cI now past pasts bef tri tex typed ati) H → va_D A0 (MW h cI now past pasts bef tri tex typed ati) → va_S A0 s0.heap H locs → lv_has ls 5 [(4, .int (nI (16 * q + i))), (3, .int (nI n)), (2, .int (nI (16 * q))), (0, .ref (h 0)), (1, .int (nI 16))] → W P0 l e0 { frames := 0, cells := 0, slots := 0, locals := 0 } s0 m0 a0 b0 t0 c0 H locs 0 0 Q0 (F0 m0 14 ls []) := by
            intro nn
            induction nn with
            | zero => intro i n H locs ls hi hn hmu; exact absurd hmu (Nat.not_lt_zero _)
            | succ nn ih14 =>
              intro i n H locs ls hi hn hmu14 hP hD hS hl
              have hnl := fb_ct_le (fun i => fr now (16 * q + i)) i
              refine lv_iload hx hb dX4_placeOf_14 (lv_at hl 0 rfl) ?_
              refine lv_iload_n hx hb dX4_placeOf_16 rfl (lv_at hl 2 rfl) ?_
              refine lv_iload_n hx hb dX4_placeOf_17 rfl (lv_at hl 4 rfl) ?_
              refine lv_iadd hx hb dX4_placeOf_18 ?_
              refine n_as (x' := nI ((16 * q) + 16)) (nI_add _ _) ?_
              refine lv_icmp_ge (tgt := 46) hx hb dX4_placeOf_19 (by decide) (fun c19 => ?_) (fun c19 => ?_)
              · skip
                replace c19 : ((16 * q) + 16) ≤ (16 * q + i) := by rw [nI_leI (by omega) (by omega)] at c19; exact c19
                have hn4 : n = fb_ct (fun i => fr now (16 * q + i)) 16 := by rw [hn, show i = 16 by omega]
                refine lv_iload_n hx hb dX4_placeOf_46 rfl (lv_at hl 1 rfl) ?_
                refine lv_iload_n hx hb dX4_placeOf_47 rfl (lv_at hl 4 rfl) ?_
                refine lv_icmp_ne (tgt := 53) hx hb dX4_placeOf_48 (by decide) (fun c48 => ?_) (fun c48 => ?_)
                · skip
                  replace c48 : ¬ n = 16 := by rw [nI_eq (by omega) (by omega)] at c48; exact c48
                  refine lv_iload_n hx hb dX4_placeOf_53 rfl (lv_at hl 2 rfl) ?_
                  refine lv_iload_n hx hb dX4_placeOf_54 rfl (lv_at hl 4 rfl) ?_
                  refine lv_iadd hx hb dX4_placeOf_55 ?_
                  refine n_as (x' := (nI (16 * (q + 1)))) (by rw [nI_add]; exact congrArg nI (by omega)) ?_
                  refine lv_istore_n (lv' := [(2, .int (nI (16 * (q + 1)))), (4, .int (nI (16 * q + i))), (3, .int (nI n)), (0, .ref (h 0)), (1, .int (nI 16))]) hx hb dX4_placeOf_56 rfl hl (by decide) rfl (fun ls hl => ?_)
                  refine lv_goto (tgt := 2) hx hb dX4_placeOf_57 (by decide) ?_
                  exact ih2 (q + 1) _ _ _ (by omega) (by rw [ha, ls1_no (by omega) (by unfold plq; rw [← hn4]; exact decide_eq_false (by omega))]) (by omega) hP hD hS (lv_sub hl [0, 3, 4] rfl)
                · skip
                  replace c48 : n = 16 := by rw [nI_eq (by omega) (by omega)] at c48; exact c48
                  refine lv_iload_n hx hb dX4_placeOf_51 rfl (lv_at hl 2 rfl) ?_
                  exact RETN _ _ (nI (16 * q)) () _ _ dX4_placeOf_52 (rfl) (by unfold pl; rw [show 320 / 16 = 20 from rfl, ha, ls1_yes (by omega) (by unfold plq; rw [← hn4]; exact decide_eq_true (by omega))]; rfl) hP hD hS
              · skip
                replace c19 : ¬ (((16 * q) + 16) ≤ (16 * q + i)) := by rw [nI_leI (by omega) (by omega)] at c19; exact c19
                refine lv_iload_n hx hb dX4_placeOf_22 rfl (lv_at hl 1 rfl) ?_
                refine lv_aload_n hx hb dX4_placeOf_23 rfl (lv_at hl 3 rfl) ?_
                refine va_get (D := D) (ci := 4) (v := .ref (h 1)) (C := RX4) (T := TX4) (N := 8) hx hb hts hI4 hown hK.1 hP 0 rfl rfl 0 (by decide) lk7 (fun _ h9 => h9) rfl dX4_placeOf_24 ?_
                refine lv_iload hx hb dX4_placeOf_27 (lv_at hl 0 rfl) ?_
                refine n_iald hx hb hK hP 1 0 rfl rfl (by decide) (by omega) dX4_placeOf_29 ?_
                refine lv_if_ne (tgt := 37) hx hb dX4_placeOf_30 (by decide) (fun c30 => ?_) (fun c30 => ?_)
                · skip
                  replace c30 : ¬ (now (16 * q + i)) = nI 0 := c30
                  refine lv_iconst (v := (nI 0)) hx hb dX4_placeOf_37 (by decide) ?_
                  refine lv_iadd hx hb dX4_placeOf_38 ?_
                  refine n_as (x' := nI (n + 0)) (nI_add _ _) ?_
                  refine lv_istore_n (lv' := [(3, .int (nI (n + 0))), (4, .int (nI (16 * q + i))), (2, .int (nI (16 * q))), (0, .ref (h 0)), (1, .int (nI 16))]) hx hb dX4_placeOf_39 rfl hl (by decide) rfl (fun ls hl => ?_)
                  refine lv_iinc (v := (nI ((16 * q + i) + 1))) (lv' := [(4, .int (nI ((16 * q + i) + 1))), (3, .int (nI (n + 0))), (2, .int (nI (16 * q))), (0, .ref (h 0)), (1, .int (nI 16))]) hx hb dX4_placeOf_40 hl (k := 1) rfl (n_inc1 _) (by decide) rfl (fun ls hl => ?_)
                  refine lv_goto (tgt := 14) hx hb dX4_placeOf_43 (by decide) ?_
                  exact ih14 (i + 1) (n + 0) _ _ _ (by omega) (by rw [fb_ct_succ, ← hn]; simp [fr, c30]) (by omega) hP hD hS (lv_sub hl [0, 1, 2, 3, 4] rfl)
                · skip
                  replace c30 : (now (16 * q + i)) = nI 0 := c30
                  refine lv_iconst (v := (nI 1)) hx hb dX4_placeOf_33 (by decide) ?_
                  refine lv_goto (tgt := 38) hx hb dX4_placeOf_34 (by decide) ?_
                  refine lv_iadd hx hb dX4_placeOf_38 ?_
                  refine n_as (x' := nI (n + 1)) (nI_add _ _) ?_
                  refine lv_istore_n (lv' := [(3, .int (nI (n + 1))), (4, .int (nI (16 * q + i))), (2, .int (nI (16 * q))), (0, .ref (h 0)), (1, .int (nI 16))]) hx hb dX4_placeOf_39 rfl hl (by decide) rfl (fun ls hl => ?_)
                  refine lv_iinc (v := (nI ((16 * q + i) + 1))) (lv' := [(4, .int (nI ((16 * q + i) + 1))), (3, .int (nI (n + 1))), (2, .int (nI (16 * q))), (0, .ref (h 0)), (1, .int (nI 16))]) hx hb dX4_placeOf_40 hl (k := 1) rfl (n_inc1 _) (by decide) rfl (fun ls hl => ?_)
                  refine lv_goto (tgt := 14) hx hb dX4_placeOf_43 (by decide) ?_
                  exact ih14 (i + 1) (n + 1) _ _ _ (by omega) (by rw [fb_ct_succ, ← hn]; simp [fr, c30]) (by omega) hP hD hS (lv_sub hl [0, 1, 2, 3, 4] rfl)
          exact LP14 _ 0 0 _ _ _ (by omega) (rfl) (Nat.lt_succ_self _) hP hD hS (lv_sub hl [0, 1, 2, 3, 4] rfl)
    exact LP2 _ 0 _ _ _ (by omega) (rfl) (Nat.lt_succ_self _) hP hD hS (lv_sub hl [0, 1, 2] rfl)
  ·
    skip
    refine lv_iconst (v := (nI 0)) hx hb dX4_placeOf_0 (by decide) ?_
    refine lv_istore_n (lv' := [(2, .int (nI 0)), (0, .ref (h 0)), (1, .int (nI 32))]) hx hb dX4_placeOf_1 rfl hl (by decide) rfl (fun ls hl => ?_)
    have LP2 : ∀ (nn : Nat) (q : Nat) (H : Heap) (locs : List Loc) (ls : Array Slot), q ≤ 10 → ls1 (plq now 32) 10 0 = ls1 (plq now 32) (10 - q) q → 10 - q < nn → va_P D vwCl (MW h cI now past pasts bef tri tex typed ati) H → va_D A0 (MW h cI now past pasts bef tri tex typed ati) → va_S A0 s0.heap H locs → lv_has ls 5 [(2, .int (nI (32 * q))), (0, .ref (h 0)), (1, .int (nI 32))] → W P0 l e0 { frames := 0, cells := 0, slots := 0, locals := 0 } s0 m0 a0 b0 t0 c0 H locs 0 0 Q0 (F0 m0 2 ls []) := by
      intro nn
      induction nn with
      | zero => intro q H locs ls hq ha hmu; exact absurd hmu (Nat.not_lt_zero _)
      | succ nn ih2 =>
        intro q H locs ls hq ha hmu2 hP hD hS hl
        refine lv_iload_n hx hb dX4_placeOf_2 rfl (lv_at hl 0 rfl) ?_
        refine lv_sipush (v := (nI 320)) hx hb dX4_placeOf_3 (by decide) ?_
        refine lv_icmp_ge (tgt := 60) hx hb dX4_placeOf_6 (by decide) (fun c6 => ?_) (fun c6 => ?_)
        · skip
          replace c6 : 320 ≤ (32 * q) := by rw [nI_leI (by omega) (by omega)] at c6; exact c6
          refine lv_bipush (v := (-9)) hx hb dX4_placeOf_60 (by decide) ?_
          exact RETN _ _ (-9) () _ _ dX4_placeOf_62 (rfl) (by unfold pl; rw [show 320 / 32 = 10 from rfl, ha, ls1_end _ (by omega)]; rfl) hP hD hS
        · skip
          replace c6 : ¬ (320 ≤ (32 * q)) := by rw [nI_leI (by omega) (by omega)] at c6; exact c6
          refine lv_iconst (v := (nI 0)) hx hb dX4_placeOf_9 (by decide) ?_
          refine lv_istore_n (lv' := [(3, .int (nI 0)), (2, .int (nI (32 * q))), (0, .ref (h 0)), (1, .int (nI 32))]) hx hb dX4_placeOf_10 rfl hl (by decide) rfl (fun ls hl => ?_)
          refine lv_iload_n hx hb dX4_placeOf_11 rfl (lv_at hl 1 rfl) ?_
          refine lv_istore (lv' := [(4, .int (nI (32 * q))), (3, .int (nI 0)), (2, .int (nI (32 * q))), (0, .ref (h 0)), (1, .int (nI 32))]) hx hb dX4_placeOf_12 hl (by decide) rfl (fun ls hl => ?_)
          have LP14 : ∀ (nn : Nat) (i : Nat) (n : Nat) (H : Heap) (locs : List Loc) (ls : Array Slot), i ≤ 32 → n = fb_ct (fun i => fr now (32 * q + i)) i → 32 - i < nn → va_P D vwCl (MW h cI now past pasts bef tri tex typed ati) H → va_D A0 (MW h cI now past pasts bef tri tex typed ati) → va_S A0 s0.heap H locs → lv_has ls 5 [(4, .int (nI (32 * q + i))), (3, .int (nI n)), (2, .int (nI (32 * q))), (0, .ref (h 0)), (1, .int (nI 32))] → W P0 l e0 { frames := 0, cells := 0, slots := 0, locals := 0 } s0 m0 a0 b0 t0 c0 H locs 0 0 Q0 (F0 m0 14 ls []) := by
            intro nn
            induction nn with
            | zero => intro i n H locs ls hi hn hmu; exact absurd hmu (Nat.not_lt_zero _)
            | succ nn ih14 =>
              intro i n H locs ls hi hn hmu14 hP hD hS hl
              have hnl := fb_ct_le (fun i => fr now (32 * q + i)) i
              refine lv_iload hx hb dX4_placeOf_14 (lv_at hl 0 rfl) ?_
              refine lv_iload_n hx hb dX4_placeOf_16 rfl (lv_at hl 2 rfl) ?_
              refine lv_iload_n hx hb dX4_placeOf_17 rfl (lv_at hl 4 rfl) ?_
              refine lv_iadd hx hb dX4_placeOf_18 ?_
              refine n_as (x' := nI ((32 * q) + 32)) (nI_add _ _) ?_
              refine lv_icmp_ge (tgt := 46) hx hb dX4_placeOf_19 (by decide) (fun c19 => ?_) (fun c19 => ?_)
              · skip
                replace c19 : ((32 * q) + 32) ≤ (32 * q + i) := by rw [nI_leI (by omega) (by omega)] at c19; exact c19
                have hn4 : n = fb_ct (fun i => fr now (32 * q + i)) 32 := by rw [hn, show i = 32 by omega]
                refine lv_iload_n hx hb dX4_placeOf_46 rfl (lv_at hl 1 rfl) ?_
                refine lv_iload_n hx hb dX4_placeOf_47 rfl (lv_at hl 4 rfl) ?_
                refine lv_icmp_ne (tgt := 53) hx hb dX4_placeOf_48 (by decide) (fun c48 => ?_) (fun c48 => ?_)
                · skip
                  replace c48 : ¬ n = 32 := by rw [nI_eq (by omega) (by omega)] at c48; exact c48
                  refine lv_iload_n hx hb dX4_placeOf_53 rfl (lv_at hl 2 rfl) ?_
                  refine lv_iload_n hx hb dX4_placeOf_54 rfl (lv_at hl 4 rfl) ?_
                  refine lv_iadd hx hb dX4_placeOf_55 ?_
                  refine n_as (x' := (nI (32 * (q + 1)))) (by rw [nI_add]; exact congrArg nI (by omega)) ?_
                  refine lv_istore_n (lv' := [(2, .int (nI (32 * (q + 1)))), (4, .int (nI (32 * q + i))), (3, .int (nI n)), (0, .ref (h 0)), (1, .int (nI 32))]) hx hb dX4_placeOf_56 rfl hl (by decide) rfl (fun ls hl => ?_)
                  refine lv_goto (tgt := 2) hx hb dX4_placeOf_57 (by decide) ?_
                  exact ih2 (q + 1) _ _ _ (by omega) (by rw [ha, ls1_no (by omega) (by unfold plq; rw [← hn4]; exact decide_eq_false (by omega))]) (by omega) hP hD hS (lv_sub hl [0, 3, 4] rfl)
                · skip
                  replace c48 : n = 32 := by rw [nI_eq (by omega) (by omega)] at c48; exact c48
                  refine lv_iload_n hx hb dX4_placeOf_51 rfl (lv_at hl 2 rfl) ?_
                  exact RETN _ _ (nI (32 * q)) () _ _ dX4_placeOf_52 (rfl) (by unfold pl; rw [show 320 / 32 = 10 from rfl, ha, ls1_yes (by omega) (by unfold plq; rw [← hn4]; exact decide_eq_true (by omega))]; rfl) hP hD hS
              · skip
                replace c19 : ¬ (((32 * q) + 32) ≤ (32 * q + i)) := by rw [nI_leI (by omega) (by omega)] at c19; exact c19
                refine lv_iload_n hx hb dX4_placeOf_22 rfl (lv_at hl 1 rfl) ?_
                refine lv_aload_n hx hb dX4_placeOf_23 rfl (lv_at hl 3 rfl) ?_
                refine va_get (D := D) (ci := 4) (v := .ref (h 1)) (C := RX4) (T := TX4) (N := 8) hx hb hts hI4 hown hK.1 hP 0 rfl rfl 0 (by decide) lk7 (fun _ h9 => h9) rfl dX4_placeOf_24 ?_
                refine lv_iload hx hb dX4_placeOf_27 (lv_at hl 0 rfl) ?_
                refine n_iald hx hb hK hP 1 0 rfl rfl (by decide) (by omega) dX4_placeOf_29 ?_
                refine lv_if_ne (tgt := 37) hx hb dX4_placeOf_30 (by decide) (fun c30 => ?_) (fun c30 => ?_)
                · skip
                  replace c30 : ¬ (now (32 * q + i)) = nI 0 := c30
                  refine lv_iconst (v := (nI 0)) hx hb dX4_placeOf_37 (by decide) ?_
                  refine lv_iadd hx hb dX4_placeOf_38 ?_
                  refine n_as (x' := nI (n + 0)) (nI_add _ _) ?_
                  refine lv_istore_n (lv' := [(3, .int (nI (n + 0))), (4, .int (nI (32 * q + i))), (2, .int (nI (32 * q))), (0, .ref (h 0)), (1, .int (nI 32))]) hx hb dX4_placeOf_39 rfl hl (by decide) rfl (fun ls hl => ?_)
                  refine lv_iinc (v := (nI ((32 * q + i) + 1))) (lv' := [(4, .int (nI ((32 * q + i) + 1))), (3, .int (nI (n + 0))), (2, .int (nI (32 * q))), (0, .ref (h 0)), (1, .int (nI 32))]) hx hb dX4_placeOf_40 hl (k := 1) rfl (n_inc1 _) (by decide) rfl (fun ls hl => ?_)
                  refine lv_goto (tgt := 14) hx hb dX4_placeOf_43 (by decide) ?_
                  exact ih14 (i + 1) (n + 0) _ _ _ (by omega) (by rw [fb_ct_succ, ← hn]; simp [fr, c30]) (by omega) hP hD hS (lv_sub hl [0, 1, 2, 3, 4] rfl)
                · skip
                  replace c30 : (now (32 * q + i)) = nI 0 := c30
                  refine lv_iconst (v := (nI 1)) hx hb dX4_placeOf_33 (by decide) ?_
                  refine lv_goto (tgt := 38) hx hb dX4_placeOf_34 (by decide) ?_
                  refine lv_iadd hx hb dX4_placeOf_38 ?_
                  refine n_as (x' := nI (n + 1)) (nI_add _ _) ?_
                  refine lv_istore_n (lv' := [(3, .int (nI (n + 1))), (4, .int (nI (32 * q + i))), (2, .int (nI (32 * q))), (0, .ref (h 0)), (1, .int (nI 32))]) hx hb dX4_placeOf_39 rfl hl (by decide) rfl (fun ls hl => ?_)
                  refine lv_iinc (v := (nI ((32 * q + i) + 1))) (lv' := [(4, .int (nI ((32 * q + i) + 1))), (3, .int (nI (n + 1))), (2, .int (nI (32 * q))), (0, .ref (h 0)), (1, .int (nI 32))]) hx hb dX4_placeOf_40 hl (k := 1) rfl (n_inc1 _) (by decide) rfl (fun ls hl => ?_)
                  refine lv_goto (tgt := 14) hx hb dX4_placeOf_43 (by decide) ?_
                  exact ih14 (i + 1) (n + 1) _ _ _ (by omega) (by rw [fb_ct_succ, ← hn]; simp [fr, c30]) (by omega) hP hD hS (lv_sub hl [0, 1, 2, 3, 4] rfl)
          exact LP14 _ 0 0 _ _ _ (by omega) (rfl) (Nat.lt_succ_self _) hP hD hS (lv_sub hl [0, 1, 2, 3, 4] rfl)
    exact LP2 _ 0 _ _ _ (by omega) (rfl) (Nat.lt_succ_self _) hP hD hS (lv_sub hl [0, 1, 2] rfl)
set_option maxHeartbeats 4000000 in
set_option maxRecDepth 100000 in
theorem c_X4_reserves {l : Launch} {D : va_G} {cI cG cC cR : ClassId} {h : Nat → Nat} {now past bef tri tex : Nat → Int32} {pasts typed ati : Int32} {v : Int32} : CtI l yX4_reserves wsX4_reserves { frames := 3, cells := 0, slots := 0, locals := 67 } D (TY cI cG cC cR) [.ref (h 0), .int v] (MW h cI now past pasts bef tri tex typed ati) (fun (u : Nat → Int32) => MW h cI u past pasts bef tri tex typed ati) (fun (r : Int32) (u : Nat → Int32) => r = (rsA now v).1 ∧ u = (rsA now v).2) := by
  refine CtI.of (cc := cX4_reserves) (maxL := 5) (ty := .int) (by decide) rfl (Nat.le_of_ble_eq_true rfl) ?_
  intro P0 e0 s0 m0 a0 b0 t0 c0 A0 Q0 ls F hK hP hD hA RETN hl
  obtain ⟨hx, hb, hml, hown, hts⟩ := id F
  have hS : va_S A0 s0.heap s0.heap [] := va_S.rf
  have hl : lv_has ls 5 [(0, .ref (h 0)), (1, .int v)] := hl
  have lk7 := hts (.fieldLink RX4 7 "SlotMapsModel" "now" "[I") (by decide +kernel)
  have hI4 : ∀ w ∈ u_ws RX4 TX4 8, w ∈ wsX4_reserves := by decide +kernel
  refine lv_iload_n hx hb dX4_reserves_0 rfl (lv_at hl 1 rfl) ?_
  refine cl_S0 (As := [.int v]) (rest := []) F hK hA hP hD hS (c_X4_isSize) (va_cwS 1 hts gX4_reserves_X4_isSize rfl rfl rfl (by decide +kernel) ⟨Nat.le_of_ble_eq_true rfl, Nat.le_of_ble_eq_true rfl⟩) rfl hl.1 rfl (Nat.le_of_ble_eq_true rfl) ⟨Nat.zero_le _, Nat.zero_le _⟩ dX4_reserves_1 (fun r_1 H locs hw_2 hP hS => ?_)
  try dsimp only at hw_2
  obtain rfl : r_1 = (bI (szB v)) := hw_2
  refine lv_if_ne (tgt := 9) hx hb dX4_reserves_4 (by decide) (fun c4 => ?_) (fun c4 => ?_)
  · skip
    replace c4 : ¬ (bI (szB v)) = nI 0 := c4
    obtain ⟨z, rfl, hz⟩ := szB_t (bI_ct c4)
    have hzl := okz_le hz
    refine lv_iconst (v := (nI 0)) hx hb dX4_reserves_9 (by decide) ?_
    refine lv_istore_n (lv' := [(2, .int (nI 0)), (0, .ref (h 0)), (1, .int (nI z))]) hx hb dX4_reserves_10 rfl hl (by decide) rfl (fun ls hl => ?_)
    have LP11 : ∀ (nn : Nat) (kb : Nat) (H : Heap) (locs : List Loc) (ls : Array Slot), kb ≤ 8 → ub now = ls1 (fun k => decide (¬ 0 < now (650 + 2 * k + 1))) (8 - kb) kb → 8 - kb < nn → va_P D vwCl (MW h cI now past pasts bef tri tex typed ati) H → va_D A0 (MW h cI now past pasts bef tri tex typed ati) → va_S A0 s0.heap H locs → lv_has ls 5 [(2, .int (nI kb)), (0, .ref (h 0)), (1, .int (nI z))] → W P0 l e0 { frames := 3, cells := 0, slots := 0, locals := 67 } s0 m0 a0 b0 t0 c0 H locs 0 0 Q0 (F0 m0 11 ls []) := by
      intro nn
      induction nn with
      | zero => intro kb H locs ls hkb ha hmu; exact absurd hmu (Nat.not_lt_zero _)
      | succ nn ih11 =>
        intro kb H locs ls hkb ha hmu11 hP hD hS hl
        refine lv_aload_n hx hb dX4_reserves_11 rfl (lv_at hl 1 rfl) ?_
        refine lv_iload_n hx hb dX4_reserves_12 rfl (lv_at hl 0 rfl) ?_
        refine cl_Vi (b := (h 0)) (As := [.int (nI kb)]) (rest := []) (wc := MW h cI now past pasts bef tri tex typed ati) (wsN := fun (_ : Unit) => MW h cI now past pasts bef tri tex typed ati) F hK hA hP hD hS (c_X4_isBlock) (cwV 1 hts gX4_reserves_X4_isBlock rfl rfl rfl (by decide +kernel) ⟨Nat.le_of_ble_eq_true rfl, Nat.le_of_ble_eq_true rfl⟩) [0, 1, 2, 3, 4, 5] [] [0, 1, 2, 3, 4, 5] ([]) rfl rfl (fun _ => rfl) (by decide) (by decide) 0 rfl rfl rfl hl.1 rfl (Nat.le_of_ble_eq_true rfl) ⟨Nat.zero_le _, Nat.zero_le _⟩ dX4_reserves_13 (fun r_4 _ H locs hw_3 hP hD hS => ?_)
        try dsimp only at hw_3 hP hD
        obtain rfl : r_4 = (bI (isB now (nI kb))) := hw_3
        refine lv_if_eq (tgt := 25) hx hb dX4_reserves_16 (by decide) (fun c16 => ?_) (fun c16 => ?_)
        · skip
          replace c16 : (bI (isB now (nI kb))) = nI 0 := c16
          have hb0 := bI_cf c16
          refine lv_aload_n hx hb dX4_reserves_25 rfl (lv_at hl 1 rfl) ?_
          refine lv_iload_n hx hb dX4_reserves_26 rfl (lv_at hl 2 rfl) ?_
          refine cl_Vi (b := (h 0)) (As := [.int (nI z)]) (rest := []) (wc := MW h cI now past pasts bef tri tex typed ati) (wsN := fun (_ : Unit) => MW h cI now past pasts bef tri tex typed ati) F hK hA hP hD hS (c_X4_placeOf hz) (cwV 1 hts gX4_reserves_X4_placeOf rfl rfl rfl (by decide +kernel) ⟨Nat.le_of_ble_eq_true rfl, Nat.le_of_ble_eq_true rfl⟩) [0, 1, 2, 3, 4, 5] [] [0, 1, 2, 3, 4, 5] ([]) rfl rfl (fun _ => rfl) (by decide) (by decide) 0 rfl rfl rfl hl.1 rfl (Nat.le_of_ble_eq_true rfl) ⟨Nat.zero_le _, Nat.zero_le _⟩ dX4_reserves_27 (fun rr _ H locs hw_5 hP hD hS => ?_)
          try dsimp only at hw_5 hP hD
          have hrr : rr = oI (pl now z) := hw_5
          cases ho : pl now z with
          | none =>
            obtain rfl : rr = -9 := by rw [hrr, ho]; rfl
            refine lv_istore_n (lv' := [(3, .int (-9)), (2, .int (nI kb)), (0, .ref (h 0)), (1, .int (nI z))]) hx hb dX4_reserves_30 rfl hl (by decide) rfl (fun ls hl => ?_)
            refine lv_iload_n hx hb dX4_reserves_31 rfl (lv_at hl 1 rfl) ?_
            refine lv_bipush (v := (nI 8)) hx hb dX4_reserves_32 (by decide) ?_
            refine lv_icmp_eq (tgt := 43) hx hb dX4_reserves_34 (by decide) (fun c34 => ?_) (fun c34 => ?_)
            · skip
              replace c34 : kb = 8 := by rw [nI_eq (by omega) (by omega)] at c34; exact c34
              refine lv_bipush (v := (-3)) hx hb dX4_reserves_43 (by decide) ?_
              exact RETN _ _ (-3) now _ _ dX4_reserves_45 (rfl) (by rw [rsA_0 hz (by first | exact Or.inr ho | exact Or.inl (by rw [ha, ls1_end _ (by omega)]))]; exact ⟨rfl, rfl⟩) hP hD hS
            · skip
              replace c34 : ¬ (kb = 8) := by rw [nI_eq (by omega) (by omega)] at c34; exact c34
              refine lv_iload_n hx hb dX4_reserves_37 rfl (lv_at hl 0 rfl) ?_
              refine lv_bipush (v := (-9)) hx hb dX4_reserves_38 (by decide) ?_
              refine lv_icmp_ne (tgt := 46) hx hb dX4_reserves_40 (by decide) (fun c40 => ?_) (fun c40 => ?_)
              · skip
                exfalso
                exact c40 rfl
              · skip
                refine lv_bipush (v := (-3)) hx hb dX4_reserves_43 (by decide) ?_
                exact RETN _ _ (-3) now _ _ dX4_reserves_45 (rfl) (by rw [rsA_0 hz (by first | exact Or.inr ho | exact Or.inl (by rw [ha, ls1_end _ (by omega)]))]; exact ⟨rfl, rfl⟩) hP hD hS
          | some p =>
            obtain rfl : rr = nI p := by rw [hrr, ho]; rfl
            obtain ⟨hp1, hp2, hp3⟩ := pl_ok hz ho
            refine lv_istore_n (lv' := [(3, .int (nI p)), (2, .int (nI kb)), (0, .ref (h 0)), (1, .int (nI z))]) hx hb dX4_reserves_30 rfl hl (by decide) rfl (fun ls hl => ?_)
            refine lv_iload_n hx hb dX4_reserves_31 rfl (lv_at hl 1 rfl) ?_
            refine lv_bipush (v := (nI 8)) hx hb dX4_reserves_32 (by decide) ?_
            refine lv_icmp_eq (tgt := 43) hx hb dX4_reserves_34 (by decide) (fun c34 => ?_) (fun c34 => ?_)
            · skip
              replace c34 : kb = 8 := by rw [nI_eq (by omega) (by omega)] at c34; exact c34
              refine lv_bipush (v := (-3)) hx hb dX4_reserves_43 (by decide) ?_
              exact RETN _ _ (-3) now _ _ dX4_reserves_45 (rfl) (by rw [rsA_0 hz (by first | exact Or.inr ho | exact Or.inl (by rw [ha, ls1_end _ (by omega)]))]; exact ⟨rfl, rfl⟩) hP hD hS
            · skip
              replace c34 : ¬ (kb = 8) := by rw [nI_eq (by omega) (by omega)] at c34; exact c34
              refine lv_iload_n hx hb dX4_reserves_37 rfl (lv_at hl 0 rfl) ?_
              refine lv_bipush (v := (-9)) hx hb dX4_reserves_38 (by decide) ?_
              refine lv_icmp_ne (tgt := 46) hx hb dX4_reserves_40 (by decide) (fun c40 => ?_) (fun c40 => ?_)
              · skip
                have hub : ub now = some kb := by rw [ha, ls1_yes (by omega) (by rw [isB_k (by omega)] at hb0; exact decide_eq_true (of_decide_eq_false hb0))]
                refine lv_aload_n hx hb dX4_reserves_46 rfl (lv_at hl 2 rfl) ?_
                refine va_get (D := D) (ci := 4) (v := .ref (h 1)) (C := RX4) (T := TX4) (N := 8) hx hb hts hI4 hown hK.1 hP 0 rfl rfl 0 (by decide) lk7 (fun _ h9 => h9) rfl dX4_reserves_47 ?_
                refine lv_sipush (v := (nI 650)) hx hb dX4_reserves_50 (by decide) ?_
                refine lv_iconst (v := (nI 2)) hx hb dX4_reserves_53 (by decide) ?_
                refine lv_iload_n hx hb dX4_reserves_54 rfl (lv_at hl 1 rfl) ?_
                refine lv_imul hx hb dX4_reserves_55 ?_
                refine n_as (x' := nI (2 * kb)) (pk_mul _ _) ?_
                refine lv_iadd hx hb dX4_reserves_56 ?_
                refine n_as (x' := nI (650 + (2 * kb))) (nI_add _ _) ?_
                refine lv_iload_n hx hb dX4_reserves_57 rfl (lv_at hl 0 rfl) ?_
                refine n_iast hx hb hK hP hD hS 1 0 rfl rfl (by decide) (by omega) dX4_reserves_58 (wsN := MW h cI (upd now (650 + (2 * kb)) (nI p)) past pasts bef tri tex typed ati) rfl (fun H locs hP hD hS => ?_)
                refine lv_aload_n hx hb dX4_reserves_59 rfl (lv_at hl 2 rfl) ?_
                refine va_get (D := D) (ci := 4) (v := .ref (h 1)) (C := RX4) (T := TX4) (N := 8) hx hb hts hI4 hown hK.1 hP 0 rfl rfl 0 (by decide) lk7 (fun _ h9 => h9) rfl dX4_reserves_60 ?_
                refine lv_sipush (v := (nI 650)) hx hb dX4_reserves_63 (by decide) ?_
                refine lv_iconst (v := (nI 2)) hx hb dX4_reserves_66 (by decide) ?_
                refine lv_iload_n hx hb dX4_reserves_67 rfl (lv_at hl 1 rfl) ?_
                refine lv_imul hx hb dX4_reserves_68 ?_
                refine n_as (x' := nI (2 * kb)) (pk_mul _ _) ?_
                refine lv_iadd hx hb dX4_reserves_69 ?_
                refine n_as (x' := nI (650 + (2 * kb))) (nI_add _ _) ?_
                refine lv_iconst (v := (nI 1)) hx hb dX4_reserves_70 (by decide) ?_
                refine lv_iadd hx hb dX4_reserves_71 ?_
                refine n_as (x' := nI ((650 + (2 * kb)) + 1)) (nI_add _ _) ?_
                refine lv_iload_n hx hb dX4_reserves_72 rfl (lv_at hl 3 rfl) ?_
                refine n_iast hx hb hK hP hD hS 1 0 rfl rfl (by decide) (by omega) dX4_reserves_73 (wsN := MW h cI (upd (upd now (650 + (2 * kb)) (nI p)) ((650 + (2 * kb)) + 1) (nI z)) past pasts bef tri tex typed ati) rfl (fun H locs hP hD hS => ?_)
                refine lv_iload_n hx hb dX4_reserves_74 rfl (lv_at hl 0 rfl) ?_
                refine lv_istore (lv' := [(4, .int (nI p)), (3, .int (nI p)), (2, .int (nI kb)), (0, .ref (h 0)), (1, .int (nI z))]) hx hb dX4_reserves_75 hl (by decide) rfl (fun ls hl => ?_)
                have LP77 : ∀ (nn : Nat) (i : Nat) (g : Nat → Int32) (H : Heap) (locs : List Loc) (ls : Array Slot), i ≤ z → g = rsF (blk now kb p z) kb p i → z - i < nn → va_P D vwCl (MW h cI g past pasts bef tri tex typed ati) H → va_D A0 (MW h cI g past pasts bef tri tex typed ati) → va_S A0 s0.heap H locs → lv_has ls 5 [(4, .int (nI (p + i))), (3, .int (nI p)), (2, .int (nI kb)), (0, .ref (h 0)), (1, .int (nI z))] → W P0 l e0 { frames := 3, cells := 0, slots := 0, locals := 67 } s0 m0 a0 b0 t0 c0 H locs 0 0 Q0 (F0 m0 77 ls []) := by
                  intro nn
                  induction nn with
                  | zero => intro i g H locs ls hi hg hmu; exact absurd hmu (Nat.not_lt_zero _)
                  | succ nn ih77 =>
                    intro i g H locs ls hi hg hmu77 hP hD hS hl
                    refine lv_iload hx hb dX4_reserves_77 (lv_at hl 0 rfl) ?_
                    refine lv_iload_n hx hb dX4_reserves_79 rfl (lv_at hl 1 rfl) ?_
                    refine lv_iload_n hx hb dX4_reserves_80 rfl (lv_at hl 4 rfl) ?_
                    refine lv_iadd hx hb dX4_reserves_81 ?_
                    refine n_as (x' := nI (p + z)) (nI_add _ _) ?_
                    refine lv_icmp_ge (tgt := 112) hx hb dX4_reserves_82 (by decide) (fun c82 => ?_) (fun c82 => ?_)
                    · skip
                      replace c82 : (p + z) ≤ (p + i) := by rw [nI_leI (by omega) (by omega)] at c82; exact c82
                      refine lv_iload_n hx hb dX4_reserves_112 rfl (lv_at hl 2 rfl) ?_
                      exact RETN _ _ (nI kb) g _ _ dX4_reserves_113 (rfl) (by rw [rsA_s hz hub ho]; exact ⟨rfl, by rw [hg, show i = z by omega]⟩) hP hD hS
                    · skip
                      replace c82 : ¬ ((p + z) ≤ (p + i)) := by rw [nI_leI (by omega) (by omega)] at c82; exact c82
                      refine lv_aload_n hx hb dX4_reserves_85 rfl (lv_at hl 3 rfl) ?_
                      refine va_get (D := D) (ci := 4) (v := .ref (h 1)) (C := RX4) (T := TX4) (N := 8) hx hb hts hI4 hown hK.1 hP 0 rfl rfl 0 (by decide) lk7 (fun _ h9 => h9) rfl dX4_reserves_86 ?_
                      refine lv_sipush (v := (nI 320)) hx hb dX4_reserves_89 (by decide) ?_
                      refine lv_iload hx hb dX4_reserves_92 (lv_at hl 0 rfl) ?_
                      refine lv_iadd hx hb dX4_reserves_94 ?_
                      refine n_as (x' := nI (320 + (p + i))) (nI_add _ _) ?_
                      refine lv_iload_n hx hb dX4_reserves_95 rfl (lv_at hl 2 rfl) ?_
                      refine lv_iconst (v := (nI 1)) hx hb dX4_reserves_96 (by decide) ?_
                      refine lv_iadd hx hb dX4_reserves_97 ?_
                      refine n_as (x' := nI (kb + 1)) (nI_add _ _) ?_
                      refine n_iast hx hb hK hP hD hS 1 0 rfl rfl (by decide) (by omega) dX4_reserves_98 (wsN := MW h cI (upd g (320 + (p + i)) (nI (kb + 1))) past pasts bef tri tex typed ati) rfl (fun H locs hP hD hS => ?_)
                      refine lv_aload_n hx hb dX4_reserves_99 rfl (lv_at hl 3 rfl) ?_
                      refine lv_iload hx hb dX4_reserves_100 (lv_at hl 0 rfl) ?_
                      refine lv_iconst (v := (nI 3)) hx hb dX4_reserves_102 (by decide) ?_
                      refine cl_Vv (b := (h 0)) (As := [.int (nI (p + i)), .int (nI 3)]) (rest := []) (wc := MW h cI (upd g (320 + (p + i)) (nI (kb + 1))) past pasts bef tri tex typed ati) (wsN := fun (_ : Unit) => MW h cI (bc1 (upd g (320 + (p + i)) (nI (kb + 1))) (p + i) (nI 3)) past pasts bef tri tex typed ati) F hK hA hP hD hS (c_X4_becomes (by omega)) (cwV 2 hts gX4_reserves_X4_becomes rfl rfl rfl (by decide +kernel) ⟨Nat.le_of_ble_eq_true rfl, Nat.le_of_ble_eq_true rfl⟩) [0, 1, 2, 3, 4, 5] [] [0, 1, 2, 3, 4, 5] ([]) rfl rfl (fun _ => rfl) (by decide) (by decide) 0 rfl rfl rfl hl.1 rfl (Nat.le_of_ble_eq_true rfl) ⟨Nat.zero_le _, Nat.zero_le _⟩ dX4_reserves_103 (fun _ H locs hw_7 hP hD hS => ?_)
                      try dsimp only at hw_7 hP hD
                      refine lv_iinc (v := (nI ((p + i) + 1))) (lv' := [(4, .int (nI ((p + i) + 1))), (3, .int (nI p)), (2, .int (nI kb)), (0, .ref (h 0)), (1, .int (nI z))]) hx hb dX4_reserves_106 hl (k := 0) rfl (n_inc1 _) (by decide) rfl (fun ls hl => ?_)
                      refine lv_goto (tgt := 77) hx hb dX4_reserves_109 (by decide) ?_
                      exact ih77 (i + 1) (bc1 (upd g (320 + (p + i)) (nI (kb + 1))) (p + i) (nI 3)) _ _ _ (by omega) (rs_s hg (by omega)) (by omega) hP hD hS (lv_sub hl [0, 1, 2, 3, 4] rfl)
                exact LP77 _ 0 (upd (upd now (650 + (2 * kb)) (nI p)) ((650 + (2 * kb)) + 1) (nI z)) _ _ _ (by omega) (rs_0 (blk now kb p z) kb p) (Nat.lt_succ_self _) hP hD hS (lv_sub hl [0, 1, 2, 3, 4] rfl)
              · skip
                exfalso
                exact ne9 (by omega) c40
        · skip
          replace c16 : ¬ (bI (isB now (nI kb))) = nI 0 := c16
          have hk7 : kb ≤ 7 := by
            rcases Nat.lt_or_ge kb 8 with q | q
            · omega
            · rw [show kb = 8 by omega, isB_8] at c16
              exact absurd rfl c16
          have hb1 := bI_ct c16
          rw [isB_k hk7] at hb1
          refine lv_iinc (v := (nI (kb + 1))) (lv' := [(2, .int (nI (kb + 1))), (0, .ref (h 0)), (1, .int (nI z))]) hx hb dX4_reserves_19 hl (k := 0) rfl (n_inc1 _) (by decide) rfl (fun ls hl => ?_)
          refine lv_goto (tgt := 11) hx hb dX4_reserves_22 (by decide) ?_
          exact ih11 (kb + 1) _ _ _ (by omega) (by rw [ha, ls1_no (by omega) (decide_eq_false (fun q => q (of_decide_eq_true hb1)))]) (by omega) hP hD hS (lv_sub hl [0, 1, 2] rfl)
    exact LP11 _ 0 _ _ _ (by omega) (rfl) (Nat.lt_succ_self _) hP hD hS (lv_sub hl [0, 1, 2] rfl)
  · skip
    replace c4 : (bI (szB v)) = nI 0 := c4
    refine lv_iconst (v := (-1)) hx hb dX4_reserves_7 (by decide) ?_
    exact RETN _ _ (-1) now _ _ dX4_reserves_8 (rfl) (by rw [rsA_n (bI_cf c4)]; exact ⟨rfl, rfl⟩) hP hD hS
set_option maxHeartbeats 4000000 in
set_option maxRecDepth 100000 in
theorem c_X4_reserve {l : Launch} {D : va_G} {cI cG cC cR : ClassId} {h : Nat → Nat} {now past bef tri tex : Nat → Int32} {typed ati : Int32} {k : Nat} (hk : k ≤ 5) {v : Int32} : CtI l yX4_reserve wsX4_reserve { frames := 4, cells := 0, slots := 0, locals := 91 } D (TY cI cG cC cR) [.ref (h 0), .int v] (MW h cI now past (nI k) bef tri tex typed ati) (fun (u : Nat → Int32) => MW h cI (fnN now (rsA now v).2 (rsA now v).1) (fnP past k now (rsA now v).1) (nI (fnK k (rsA now v).1)) u tri tex typed ati) (fun (r : Int32) (u : Nat → Int32) => r = (rsA now v).1) := by
  refine CtI.of (cc := cX4_reserve) (maxL := 2) (ty := .int) (by decide) rfl (Nat.le_of_ble_eq_true rfl) ?_
  intro P0 e0 s0 m0 a0 b0 t0 c0 A0 Q0 ls F hK hP hD hA RETN hl
  obtain ⟨hx, hb, hml, hown, hts⟩ := id F
  have hS : va_S A0 s0.heap s0.heap [] := va_S.rf
  have hl : lv_has ls 2 [(0, .ref (h 0)), (1, .int v)] := hl
  refine lv_aload_n hx hb dX4_reserve_0 rfl (lv_at hl 0 rfl) ?_
  refine cl_Vv (b := (h 0)) (As := []) (rest := []) (wc := MW h cI now past (nI k) bef tri tex typed ati) (wsN := fun (_ : Unit) => MW h cI now past (nI k) now tri tex typed ati) F hK hA hP hD hS (c_X4_notes) (cwV 0 hts gX4_reserve_X4_notes rfl rfl rfl (by decide +kernel) ⟨Nat.le_of_ble_eq_true rfl, Nat.le_of_ble_eq_true rfl⟩) [0, 1, 2, 3, 4, 5] [] [0, 1, 2, 3, 4, 5] ([]) rfl rfl (fun _ => rfl) (by decide) (by decide) 0 rfl rfl rfl hl.1 rfl (Nat.le_of_ble_eq_true rfl) ⟨Nat.zero_le _, Nat.zero_le _⟩ dX4_reserve_1 (fun _ H locs hw_1 hP hD hS => ?_)
  try dsimp only at hw_1 hP hD
  refine lv_aload_n hx hb dX4_reserve_4 rfl (lv_at hl 0 rfl) ?_
  refine lv_aload_n hx hb dX4_reserve_5 rfl (lv_at hl 0 rfl) ?_
  refine lv_iload_n hx hb dX4_reserve_6 rfl (lv_at hl 1 rfl) ?_
  refine cl_Vi (b := (h 0)) (As := [.int v]) (rest := [.ref (h 0)]) (wc := MW h cI now past (nI k) now tri tex typed ati) (wsN := fun (u1 : Nat → Int32) => MW h cI u1 past (nI k) now tri tex typed ati) F hK hA hP hD hS (c_X4_reserves) (cwV 1 hts gX4_reserve_X4_reserves rfl rfl rfl (by decide +kernel) ⟨Nat.le_of_ble_eq_true rfl, Nat.le_of_ble_eq_true rfl⟩) [0, 1, 2, 3, 4, 5] [] [0, 1, 2, 3, 4, 5] ([]) rfl rfl (fun _ => rfl) (by decide) (by decide) 0 rfl rfl rfl hl.1 rfl (Nat.le_of_ble_eq_true rfl) ⟨Nat.zero_le _, Nat.zero_le _⟩ dX4_reserve_7 (fun r1 u1 H locs hw_3 hP hD hS => ?_)
  try dsimp only at hw_3 hP hD
  obtain ⟨rfl, rfl⟩ := hw_3
  have hP : va_P D vwCl (MW h cI ((rsA now v).2) past (nI k) now tri tex typed ati) H := hP
  have hD : va_D A0 (MW h cI ((rsA now v).2) past (nI k) now tri tex typed ati) := hD
  refine cl_Vi (b := (h 0)) (As := [.int ((rsA now v).1)]) (rest := []) (wc := MW h cI ((rsA now v).2) past (nI k) now tri tex typed ati) (wsN := fun (_ : Unit) => MW h cI (fnN now (rsA now v).2 (rsA now v).1) (fnP past k now (rsA now v).1) (nI (fnK k (rsA now v).1)) now tri tex typed ati) F hK hA hP hD hS (c_X4_ends hk) (cwV 1 hts gX4_reserve_X4_ends rfl rfl rfl (by decide +kernel) ⟨Nat.le_of_ble_eq_true rfl, Nat.le_of_ble_eq_true rfl⟩) [0, 1, 2, 3, 4, 5] [] [0, 1, 2, 3, 4, 5] ([]) rfl rfl (fun _ => rfl) (by decide) (by decide) 0 rfl rfl rfl hl.1 rfl (Nat.le_of_ble_eq_true rfl) ⟨Nat.zero_le _, Nat.zero_le _⟩ dX4_reserve_10 (fun r_6 _ H locs hw_5 hP hD hS => ?_)
  try dsimp only at hw_5 hP hD
  obtain rfl : r_6 = ((rsA now v).1) := hw_5
  exact RETN _ _ ((rsA now v).1) now _ _ dX4_reserve_13 (rfl) (rfl) hP hD hS
set_option maxHeartbeats 4000000 in
set_option maxRecDepth 100000 in
theorem c_X4_takesIn {l : Launch} {D : va_G} {cI cG cC cR : ClassId} {h : Nat → Nat} {now past bef tri tex : Nat → Int32} {pasts typed ati : Int32} {v : Int32} (hB : BInv now) : CtI l yX4_takesIn wsX4_takesIn { frames := 3, cells := 0, slots := 0, locals := 67 } D (TY cI cG cC cR) [.ref (h 0), .int v] (MW h cI now past pasts bef tri tex typed ati) (fun (u : Nat → Int32) => MW h cI u past pasts bef tri tex typed ati) (fun (r : Int32) (u : Nat → Int32) => r = (tiA now v).1 ∧ u = (tiA now v).2) := by
  refine CtI.of (cc := cX4_takesIn) (maxL := 4) (ty := .int) (by decide) rfl (Nat.le_of_ble_eq_true rfl) ?_
  intro P0 e0 s0 m0 a0 b0 t0 c0 A0 Q0 ls F hK hP hD hA RETN hl
  obtain ⟨hx, hb, hml, hown, hts⟩ := id F
  have hS : va_S A0 s0.heap s0.heap [] := va_S.rf
  have hl : lv_has ls 4 [(0, .ref (h 0)), (1, .int v)] := hl
  have lk7 := hts (.fieldLink RX4 7 "SlotMapsModel" "now" "[I") (by decide +kernel)
  have hI4 : ∀ w ∈ u_ws RX4 TX4 8, w ∈ wsX4_takesIn := by decide +kernel
  refine lv_aload_n hx hb dX4_takesIn_0 rfl (lv_at hl 0 rfl) ?_
  refine lv_iload_n hx hb dX4_takesIn_1 rfl (lv_at hl 1 rfl) ?_
  refine cl_Vi (b := (h 0)) (As := [.int v]) (rest := []) (wc := MW h cI now past pasts bef tri tex typed ati) (wsN := fun (_ : Unit) => MW h cI now past pasts bef tri tex typed ati) F hK hA hP hD hS (c_X4_isBlock) (cwV 1 hts gX4_takesIn_X4_isBlock rfl rfl rfl (by decide +kernel) ⟨Nat.le_of_ble_eq_true rfl, Nat.le_of_ble_eq_true rfl⟩) [0, 1, 2, 3, 4, 5] [] [0, 1, 2, 3, 4, 5] ([]) rfl rfl (fun _ => rfl) (by decide) (by decide) 0 rfl rfl rfl hl.1 rfl (Nat.le_of_ble_eq_true rfl) ⟨Nat.zero_le _, Nat.zero_le _⟩ dX4_takesIn_2 (fun r_2 _ H locs hw_1 hP hD hS => ?_)
  try dsimp only at hw_1 hP hD
  obtain rfl : r_2 = (bI (isB now v)) := hw_1
  refine lv_if_ne (tgt := 10) hx hb dX4_takesIn_5 (by decide) (fun c5 => ?_) (fun c5 => ?_)
  · skip
    replace c5 : ¬ (bI (isB now v)) = nI 0 := c5
    obtain ⟨kb, hkb, rfl, h0⟩ := isB_t (bI_ct c5)
    obtain ⟨p, z, hp, hz, hok, hmod, hpz⟩ := hB kb (by omega) h0
    refine lv_aload_n hx hb dX4_takesIn_10 rfl (lv_at hl 0 rfl) ?_
    refine va_get (D := D) (ci := 4) (v := .ref (h 1)) (C := RX4) (T := TX4) (N := 8) hx hb hts hI4 hown hK.1 hP 0 rfl rfl 0 (by decide) lk7 (fun _ h9 => h9) rfl dX4_takesIn_11 ?_
    refine lv_sipush (v := (nI 650)) hx hb dX4_takesIn_14 (by decide) ?_
    refine lv_iconst (v := (nI 2)) hx hb dX4_takesIn_17 (by decide) ?_
    refine lv_iload_n hx hb dX4_takesIn_18 rfl (lv_at hl 1 rfl) ?_
    refine lv_imul hx hb dX4_takesIn_19 ?_
    refine n_as (x' := nI (2 * kb)) (pk_mul _ _) ?_
    refine lv_iadd hx hb dX4_takesIn_20 ?_
    refine n_as (x' := nI (650 + (2 * kb))) (nI_add _ _) ?_
    refine n_iald hx hb hK hP 1 0 rfl rfl (by decide) (by omega) dX4_takesIn_21 ?_
    refine n_as (x' := (nI p)) (hp) ?_
    refine lv_istore_n (lv' := [(2, .int (nI p)), (0, .ref (h 0)), (1, .int (nI kb))]) hx hb dX4_takesIn_22 rfl hl (by decide) rfl (fun ls hl => ?_)
    refine lv_iload_n hx hb dX4_takesIn_23 rfl (lv_at hl 0 rfl) ?_
    refine lv_istore_n (lv' := [(3, .int (nI p)), (2, .int (nI p)), (0, .ref (h 0)), (1, .int (nI kb))]) hx hb dX4_takesIn_24 rfl hl (by decide) rfl (fun ls hl => ?_)
    have LP25 : ∀ (nn : Nat) (sl : Nat) (H : Heap) (locs : List Loc) (ls : Array Slot), p ≤ sl ∧ sl ≤ p + z → kp now p z = ls1 (fun s => decide (now s = nI 3)) (p + z - sl) sl → p + z - sl < nn → va_P D vwCl (MW h cI now past pasts bef tri tex typed ati) H → va_D A0 (MW h cI now past pasts bef tri tex typed ati) → va_S A0 s0.heap H locs → lv_has ls 4 [(3, .int (nI sl)), (2, .int (nI p)), (0, .ref (h 0)), (1, .int (nI kb))] → W P0 l e0 { frames := 3, cells := 0, slots := 0, locals := 67 } s0 m0 a0 b0 t0 c0 H locs 0 0 Q0 (F0 m0 25 ls []) := by
      intro nn
      induction nn with
      | zero => intro sl H locs ls hs ha hmu; exact absurd hmu (Nat.not_lt_zero _)
      | succ nn ih25 =>
        intro sl H locs ls hs ha hmu25 hP hD hS hl
        refine lv_iload_n hx hb dX4_takesIn_25 rfl (lv_at hl 0 rfl) ?_
        refine lv_iload_n hx hb dX4_takesIn_26 rfl (lv_at hl 1 rfl) ?_
        refine lv_aload_n hx hb dX4_takesIn_27 rfl (lv_at hl 2 rfl) ?_
        refine va_get (D := D) (ci := 4) (v := .ref (h 1)) (C := RX4) (T := TX4) (N := 8) hx hb hts hI4 hown hK.1 hP 0 rfl rfl 0 (by decide) lk7 (fun _ h9 => h9) rfl dX4_takesIn_28 ?_
        refine lv_sipush (v := (nI 650)) hx hb dX4_takesIn_31 (by decide) ?_
        refine lv_iconst (v := (nI 2)) hx hb dX4_takesIn_34 (by decide) ?_
        refine lv_iload_n hx hb dX4_takesIn_35 rfl (lv_at hl 3 rfl) ?_
        refine lv_imul hx hb dX4_takesIn_36 ?_
        refine n_as (x' := nI (2 * kb)) (pk_mul _ _) ?_
        refine lv_iadd hx hb dX4_takesIn_37 ?_
        refine n_as (x' := nI (650 + (2 * kb))) (nI_add _ _) ?_
        refine lv_iconst (v := (nI 1)) hx hb dX4_takesIn_38 (by decide) ?_
        refine lv_iadd hx hb dX4_takesIn_39 ?_
        refine n_as (x' := nI ((650 + (2 * kb)) + 1)) (nI_add _ _) ?_
        refine n_iald hx hb hK hP 1 0 rfl rfl (by decide) (by omega) dX4_takesIn_40 ?_
        refine n_as (x' := (nI z)) (hz) ?_
        refine lv_iadd hx hb dX4_takesIn_41 ?_
        refine n_as (x' := nI (p + z)) (nI_add _ _) ?_
        refine lv_icmp_ge (tgt := 69) hx hb dX4_takesIn_42 (by decide) (fun c42 => ?_) (fun c42 => ?_)
        · skip
          replace c42 : (p + z) ≤ sl := by rw [nI_leI (by omega) (by omega)] at c42; exact c42
          refine lv_bipush (v := (-3)) hx hb dX4_takesIn_69 (by decide) ?_
          exact RETN _ _ (-3) now _ _ dX4_takesIn_71 (rfl) (by rw [tiA_s hkb (bI_ct c5) hp hz hpz, ha, ls1_end _ (by omega)]; exact ⟨rfl, rfl⟩) hP hD hS
        · skip
          replace c42 : ¬ ((p + z) ≤ sl) := by rw [nI_leI (by omega) (by omega)] at c42; exact c42
          refine lv_aload_n hx hb dX4_takesIn_45 rfl (lv_at hl 2 rfl) ?_
          refine va_get (D := D) (ci := 4) (v := .ref (h 1)) (C := RX4) (T := TX4) (N := 8) hx hb hts hI4 hown hK.1 hP 0 rfl rfl 0 (by decide) lk7 (fun _ h9 => h9) rfl dX4_takesIn_46 ?_
          refine lv_iload_n hx hb dX4_takesIn_49 rfl (lv_at hl 0 rfl) ?_
          refine n_iald hx hb hK hP 1 0 rfl rfl (by decide) (by omega) dX4_takesIn_50 ?_
          refine lv_iconst (v := (nI 3)) hx hb dX4_takesIn_51 (by decide) ?_
          refine lv_icmp_ne (tgt := 63) hx hb dX4_takesIn_52 (by decide) (fun c52 => ?_) (fun c52 => ?_)
          · skip
            refine lv_iinc (v := (nI (sl + 1))) (lv' := [(3, .int (nI (sl + 1))), (2, .int (nI p)), (0, .ref (h 0)), (1, .int (nI kb))]) hx hb dX4_takesIn_63 hl (k := 0) rfl (n_inc1 _) (by decide) rfl (fun ls hl => ?_)
            refine lv_goto (tgt := 25) hx hb dX4_takesIn_66 (by decide) ?_
            exact ih25 (sl + 1) _ _ _ (by omega) (by rw [ha, ls1_no (by omega) (decide_eq_false c52)]) (by omega) hP hD hS (lv_sub hl [0, 1, 2, 3] rfl)
          · skip
            refine lv_aload_n hx hb dX4_takesIn_55 rfl (lv_at hl 2 rfl) ?_
            refine lv_iload_n hx hb dX4_takesIn_56 rfl (lv_at hl 0 rfl) ?_
            refine lv_iconst (v := (nI 1)) hx hb dX4_takesIn_57 (by decide) ?_
            refine cl_Vv (b := (h 0)) (As := [.int (nI sl), .int (nI 1)]) (rest := []) (wc := MW h cI now past pasts bef tri tex typed ati) (wsN := fun (_ : Unit) => MW h cI (bc1 now sl (nI 1)) past pasts bef tri tex typed ati) F hK hA hP hD hS (c_X4_becomes (by omega)) (cwV 2 hts gX4_takesIn_X4_becomes rfl rfl rfl (by decide +kernel) ⟨Nat.le_of_ble_eq_true rfl, Nat.le_of_ble_eq_true rfl⟩) [0, 1, 2, 3, 4, 5] [] [0, 1, 2, 3, 4, 5] ([]) rfl rfl (fun _ => rfl) (by decide) (by decide) 0 rfl rfl rfl hl.1 rfl (Nat.le_of_ble_eq_true rfl) ⟨Nat.zero_le _, Nat.zero_le _⟩ dX4_takesIn_58 (fun _ H locs hw_3 hP hD hS => ?_)
            try dsimp only at hw_3 hP hD
            refine lv_iload_n hx hb dX4_takesIn_61 rfl (lv_at hl 0 rfl) ?_
            exact RETN _ _ (nI sl) (bc1 now sl (nI 1)) _ _ dX4_takesIn_62 (rfl) (by rw [tiA_s hkb (bI_ct c5) hp hz hpz, ha, ls1_yes (by omega) (decide_eq_true c52)]; exact ⟨rfl, rfl⟩) hP hD hS
    exact LP25 _ p _ _ _ (by omega) (by unfold kp; rw [show p + z - p = z by omega]) (Nat.lt_succ_self _) hP hD hS (lv_sub hl [0, 1, 2, 3] rfl)
  · skip
    replace c5 : (bI (isB now v)) = nI 0 := c5
    refine lv_iconst (v := (-1)) hx hb dX4_takesIn_8 (by decide) ?_
    exact RETN _ _ (-1) now _ _ dX4_takesIn_9 (rfl) (by rw [tiA_n (bI_cf c5)]; exact ⟨rfl, rfl⟩) hP hD hS
set_option maxHeartbeats 4000000 in
set_option maxRecDepth 100000 in
theorem c_X4_takeIn {l : Launch} {D : va_G} {cI cG cC cR : ClassId} {h : Nat → Nat} {now past bef tri tex : Nat → Int32} {typed ati : Int32} {k : Nat} (hk : k ≤ 5) {v : Int32} (hB : BInv now) : CtI l yX4_takeIn wsX4_takeIn { frames := 4, cells := 0, slots := 0, locals := 90 } D (TY cI cG cC cR) [.ref (h 0), .int v] (MW h cI now past (nI k) bef tri tex typed ati) (fun (u : Nat → Int32) => MW h cI (fnN now (tiA now v).2 (tiA now v).1) (fnP past k now (tiA now v).1) (nI (fnK k (tiA now v).1)) u tri tex typed ati) (fun (r : Int32) (u : Nat → Int32) => r = (tiA now v).1) := by
  refine CtI.of (cc := cX4_takeIn) (maxL := 2) (ty := .int) (by decide) rfl (Nat.le_of_ble_eq_true rfl) ?_
  intro P0 e0 s0 m0 a0 b0 t0 c0 A0 Q0 ls F hK hP hD hA RETN hl
  obtain ⟨hx, hb, hml, hown, hts⟩ := id F
  have hS : va_S A0 s0.heap s0.heap [] := va_S.rf
  have hl : lv_has ls 2 [(0, .ref (h 0)), (1, .int v)] := hl
  refine lv_aload_n hx hb dX4_takeIn_0 rfl (lv_at hl 0 rfl) ?_
  refine cl_Vv (b := (h 0)) (As := []) (rest := []) (wc := MW h cI now past (nI k) bef tri tex typed ati) (wsN := fun (_ : Unit) => MW h cI now past (nI k) now tri tex typed ati) F hK hA hP hD hS (c_X4_notes) (cwV 0 hts gX4_takeIn_X4_notes rfl rfl rfl (by decide +kernel) ⟨Nat.le_of_ble_eq_true rfl, Nat.le_of_ble_eq_true rfl⟩) [0, 1, 2, 3, 4, 5] [] [0, 1, 2, 3, 4, 5] ([]) rfl rfl (fun _ => rfl) (by decide) (by decide) 0 rfl rfl rfl hl.1 rfl (Nat.le_of_ble_eq_true rfl) ⟨Nat.zero_le _, Nat.zero_le _⟩ dX4_takeIn_1 (fun _ H locs hw_1 hP hD hS => ?_)
  try dsimp only at hw_1 hP hD
  refine lv_aload_n hx hb dX4_takeIn_4 rfl (lv_at hl 0 rfl) ?_
  refine lv_aload_n hx hb dX4_takeIn_5 rfl (lv_at hl 0 rfl) ?_
  refine lv_iload_n hx hb dX4_takeIn_6 rfl (lv_at hl 1 rfl) ?_
  refine cl_Vi (b := (h 0)) (As := [.int v]) (rest := [.ref (h 0)]) (wc := MW h cI now past (nI k) now tri tex typed ati) (wsN := fun (u1 : Nat → Int32) => MW h cI u1 past (nI k) now tri tex typed ati) F hK hA hP hD hS (c_X4_takesIn hB) (cwV 1 hts gX4_takeIn_X4_takesIn rfl rfl rfl (by decide +kernel) ⟨Nat.le_of_ble_eq_true rfl, Nat.le_of_ble_eq_true rfl⟩) [0, 1, 2, 3, 4, 5] [] [0, 1, 2, 3, 4, 5] ([]) rfl rfl (fun _ => rfl) (by decide) (by decide) 0 rfl rfl rfl hl.1 rfl (Nat.le_of_ble_eq_true rfl) ⟨Nat.zero_le _, Nat.zero_le _⟩ dX4_takeIn_7 (fun r1 u1 H locs hw_3 hP hD hS => ?_)
  try dsimp only at hw_3 hP hD
  obtain ⟨rfl, rfl⟩ := hw_3
  have hP : va_P D vwCl (MW h cI ((tiA now v).2) past (nI k) now tri tex typed ati) H := hP
  have hD : va_D A0 (MW h cI ((tiA now v).2) past (nI k) now tri tex typed ati) := hD
  refine cl_Vi (b := (h 0)) (As := [.int ((tiA now v).1)]) (rest := []) (wc := MW h cI ((tiA now v).2) past (nI k) now tri tex typed ati) (wsN := fun (_ : Unit) => MW h cI (fnN now (tiA now v).2 (tiA now v).1) (fnP past k now (tiA now v).1) (nI (fnK k (tiA now v).1)) now tri tex typed ati) F hK hA hP hD hS (c_X4_ends hk) (cwV 1 hts gX4_takeIn_X4_ends rfl rfl rfl (by decide +kernel) ⟨Nat.le_of_ble_eq_true rfl, Nat.le_of_ble_eq_true rfl⟩) [0, 1, 2, 3, 4, 5] [] [0, 1, 2, 3, 4, 5] ([]) rfl rfl (fun _ => rfl) (by decide) (by decide) 0 rfl rfl rfl hl.1 rfl (Nat.le_of_ble_eq_true rfl) ⟨Nat.zero_le _, Nat.zero_le _⟩ dX4_takeIn_10 (fun r_6 _ H locs hw_5 hP hD hS => ?_)
  try dsimp only at hw_5 hP hD
  obtain rfl : r_6 = ((tiA now v).1) := hw_5
  exact RETN _ _ ((tiA now v).1) now _ _ dX4_takeIn_13 (rfl) (rfl) hP hD hS
set_option maxHeartbeats 4000000 in
set_option maxRecDepth 100000 in
theorem c_X4_giveUp {l : Launch} {D : va_G} {cI cG cC cR : ClassId} {h : Nat → Nat} {now past bef tri tex : Nat → Int32} {typed ati : Int32} {k : Nat} (hk : k ≤ 5) {v : Int32} (hB : BInv now) : CtI l yX4_giveUp wsX4_giveUp { frames := 3, cells := 0, slots := 0, locals := 67 } D (TY cI cG cC cR) [.ref (h 0), .int v] (MW h cI now past (nI k) bef tri tex typed ati) (fun (u : Nat → Int32) => MW h cI (fnN now (guA now v).2 (guA now v).1) (fnP past k now (guA now v).1) (nI (fnK k (guA now v).1)) u tri tex typed ati) (fun (r : Int32) (u : Nat → Int32) => r = (guA now v).1) := by
  refine CtI.of (cc := cX4_giveUp) (maxL := 5) (ty := .int) (by decide) rfl (Nat.le_of_ble_eq_true rfl) ?_
  intro P0 e0 s0 m0 a0 b0 t0 c0 A0 Q0 ls F hK hP hD hA RETN hl
  obtain ⟨hx, hb, hml, hown, hts⟩ := id F
  have hS : va_S A0 s0.heap s0.heap [] := va_S.rf
  have hl : lv_has ls 5 [(0, .ref (h 0)), (1, .int v)] := hl
  have lk7 := hts (.fieldLink RX4 7 "SlotMapsModel" "now" "[I") (by decide +kernel)
  have hI4 : ∀ w ∈ u_ws RX4 TX4 8, w ∈ wsX4_giveUp := by decide +kernel
  refine lv_aload_n hx hb dX4_giveUp_0 rfl (lv_at hl 0 rfl) ?_
  refine lv_iload_n hx hb dX4_giveUp_1 rfl (lv_at hl 1 rfl) ?_
  refine cl_Vi (b := (h 0)) (As := [.int v]) (rest := []) (wc := MW h cI now past (nI k) bef tri tex typed ati) (wsN := fun (_ : Unit) => MW h cI now past (nI k) bef tri tex typed ati) F hK hA hP hD hS (c_X4_isBlock) (cwV 1 hts gX4_giveUp_X4_isBlock rfl rfl rfl (by decide +kernel) ⟨Nat.le_of_ble_eq_true rfl, Nat.le_of_ble_eq_true rfl⟩) [0, 1, 2, 3, 4, 5] [] [0, 1, 2, 3, 4, 5] ([]) rfl rfl (fun _ => rfl) (by decide) (by decide) 0 rfl rfl rfl hl.1 rfl (Nat.le_of_ble_eq_true rfl) ⟨Nat.zero_le _, Nat.zero_le _⟩ dX4_giveUp_2 (fun r_2 _ H locs hw_1 hP hD hS => ?_)
  try dsimp only at hw_1 hP hD
  obtain rfl : r_2 = (bI (isB now v)) := hw_1
  refine lv_if_ne (tgt := 10) hx hb dX4_giveUp_5 (by decide) (fun c5 => ?_) (fun c5 => ?_)
  · skip
    replace c5 : ¬ (bI (isB now v)) = nI 0 := c5
    obtain ⟨kb, hkb, rfl, h0⟩ := isB_t (bI_ct c5)
    obtain ⟨p, z, hp, hz, hok, hmod, hpz⟩ := hB kb (by omega) h0
    refine lv_aload_n hx hb dX4_giveUp_10 rfl (lv_at hl 0 rfl) ?_
    refine cl_Vv (b := (h 0)) (As := []) (rest := []) (wc := MW h cI now past (nI k) bef tri tex typed ati) (wsN := fun (_ : Unit) => MW h cI now past (nI k) now tri tex typed ati) F hK hA hP hD hS (c_X4_notes) (cwV 0 hts gX4_giveUp_X4_notes rfl rfl rfl (by decide +kernel) ⟨Nat.le_of_ble_eq_true rfl, Nat.le_of_ble_eq_true rfl⟩) [0, 1, 2, 3, 4, 5] [] [0, 1, 2, 3, 4, 5] ([]) rfl rfl (fun _ => rfl) (by decide) (by decide) 0 rfl rfl rfl hl.1 rfl (Nat.le_of_ble_eq_true rfl) ⟨Nat.zero_le _, Nat.zero_le _⟩ dX4_giveUp_11 (fun _ H locs hw_3 hP hD hS => ?_)
    try dsimp only at hw_3 hP hD
    refine lv_iconst (v := (nI 0)) hx hb dX4_giveUp_14 (by decide) ?_
    refine lv_istore_n (lv' := [(2, .int (nI 0)), (0, .ref (h 0)), (1, .int (nI kb))]) hx hb dX4_giveUp_15 rfl hl (by decide) rfl (fun ls hl => ?_)
    refine lv_aload_n hx hb dX4_giveUp_16 rfl (lv_at hl 1 rfl) ?_
    refine va_get (D := D) (ci := 4) (v := .ref (h 1)) (C := RX4) (T := TX4) (N := 8) hx hb hts hI4 hown hK.1 hP 0 rfl rfl 0 (by decide) lk7 (fun _ h9 => h9) rfl dX4_giveUp_17 ?_
    refine lv_sipush (v := (nI 650)) hx hb dX4_giveUp_20 (by decide) ?_
    refine lv_iconst (v := (nI 2)) hx hb dX4_giveUp_23 (by decide) ?_
    refine lv_iload_n hx hb dX4_giveUp_24 rfl (lv_at hl 2 rfl) ?_
    refine lv_imul hx hb dX4_giveUp_25 ?_
    refine n_as (x' := nI (2 * kb)) (pk_mul _ _) ?_
    refine lv_iadd hx hb dX4_giveUp_26 ?_
    refine n_as (x' := nI (650 + (2 * kb))) (nI_add _ _) ?_
    refine n_iald hx hb hK hP 1 0 rfl rfl (by decide) (by omega) dX4_giveUp_27 ?_
    refine n_as (x' := (nI p)) (hp) ?_
    refine lv_istore_n (lv' := [(3, .int (nI p)), (2, .int (nI 0)), (0, .ref (h 0)), (1, .int (nI kb))]) hx hb dX4_giveUp_28 rfl hl (by decide) rfl (fun ls hl => ?_)
    refine lv_iload_n hx hb dX4_giveUp_29 rfl (lv_at hl 0 rfl) ?_
    refine lv_istore (lv' := [(4, .int (nI p)), (3, .int (nI p)), (2, .int (nI 0)), (0, .ref (h 0)), (1, .int (nI kb))]) hx hb dX4_giveUp_30 hl (by decide) rfl (fun ls hl => ?_)
    have LP32 : ∀ (nn : Nat) (i : Nat) (n : Nat) (g : Nat → Int32) (H : Heap) (locs : List Loc) (ls : Array Slot), i ≤ z → n = guN now p i → g = guF now p i → z - i < nn → va_P D vwCl (MW h cI g past (nI k) now tri tex typed ati) H → va_D A0 (MW h cI g past (nI k) now tri tex typed ati) → va_S A0 s0.heap H locs → lv_has ls 5 [(4, .int (nI (p + i))), (3, .int (nI p)), (2, .int (nI n)), (0, .ref (h 0)), (1, .int (nI kb))] → W P0 l e0 { frames := 3, cells := 0, slots := 0, locals := 67 } s0 m0 a0 b0 t0 c0 H locs 0 0 Q0 (F0 m0 32 ls []) := by
      intro nn
      induction nn with
      | zero => intro i n g H locs ls hi hn hg hmu; exact absurd hmu (Nat.not_lt_zero _)
      | succ nn ih32 =>
        intro i n g H locs ls hi hn hg hmu32 hP hD hS hl
        have hnl := guN_le now p i
        refine lv_iload hx hb dX4_giveUp_32 (lv_at hl 0 rfl) ?_
        refine lv_iload_n hx hb dX4_giveUp_34 rfl (lv_at hl 1 rfl) ?_
        refine lv_aload_n hx hb dX4_giveUp_35 rfl (lv_at hl 3 rfl) ?_
        refine va_get (D := D) (ci := 4) (v := .ref (h 1)) (C := RX4) (T := TX4) (N := 8) hx hb hts hI4 hown hK.1 hP 0 rfl rfl 0 (by decide) lk7 (fun _ h9 => h9) rfl dX4_giveUp_36 ?_
        refine lv_sipush (v := (nI 650)) hx hb dX4_giveUp_39 (by decide) ?_
        refine lv_iconst (v := (nI 2)) hx hb dX4_giveUp_42 (by decide) ?_
        refine lv_iload_n hx hb dX4_giveUp_43 rfl (lv_at hl 4 rfl) ?_
        refine lv_imul hx hb dX4_giveUp_44 ?_
        refine n_as (x' := nI (2 * kb)) (pk_mul _ _) ?_
        refine lv_iadd hx hb dX4_giveUp_45 ?_
        refine n_as (x' := nI (650 + (2 * kb))) (nI_add _ _) ?_
        refine lv_iconst (v := (nI 1)) hx hb dX4_giveUp_46 (by decide) ?_
        refine lv_iadd hx hb dX4_giveUp_47 ?_
        refine n_as (x' := nI ((650 + (2 * kb)) + 1)) (nI_add _ _) ?_
        refine n_iald hx hb hK hP 1 0 rfl rfl (by decide) (by omega) dX4_giveUp_48 ?_
        refine n_as (x' := (nI z)) (by rw [gu_blk hg (by omega) (by omega)]; exact hz) ?_
        refine lv_iadd hx hb dX4_giveUp_49 ?_
        refine n_as (x' := nI (p + z)) (nI_add _ _) ?_
        refine lv_icmp_ge (tgt := 92) hx hb dX4_giveUp_50 (by decide) (fun c50 => ?_) (fun c50 => ?_)
        · skip
          replace c50 : (p + z) ≤ (p + i) := by rw [nI_leI (by omega) (by omega)] at c50; exact c50
          refine lv_aload_n hx hb dX4_giveUp_92 rfl (lv_at hl 3 rfl) ?_
          refine va_get (D := D) (ci := 4) (v := .ref (h 1)) (C := RX4) (T := TX4) (N := 8) hx hb hts hI4 hown hK.1 hP 0 rfl rfl 0 (by decide) lk7 (fun _ h9 => h9) rfl dX4_giveUp_93 ?_
          refine lv_sipush (v := (nI 650)) hx hb dX4_giveUp_96 (by decide) ?_
          refine lv_iconst (v := (nI 2)) hx hb dX4_giveUp_99 (by decide) ?_
          refine lv_iload_n hx hb dX4_giveUp_100 rfl (lv_at hl 4 rfl) ?_
          refine lv_imul hx hb dX4_giveUp_101 ?_
          refine n_as (x' := nI (2 * kb)) (pk_mul _ _) ?_
          refine lv_iadd hx hb dX4_giveUp_102 ?_
          refine n_as (x' := nI (650 + (2 * kb))) (nI_add _ _) ?_
          refine lv_iconst (v := (nI 0)) hx hb dX4_giveUp_103 (by decide) ?_
          refine n_iast hx hb hK hP hD hS 1 0 rfl rfl (by decide) (by omega) dX4_giveUp_104 (wsN := MW h cI (upd g (650 + (2 * kb)) (nI 0)) past (nI k) now tri tex typed ati) rfl (fun H locs hP hD hS => ?_)
          refine lv_aload_n hx hb dX4_giveUp_105 rfl (lv_at hl 3 rfl) ?_
          refine va_get (D := D) (ci := 4) (v := .ref (h 1)) (C := RX4) (T := TX4) (N := 8) hx hb hts hI4 hown hK.1 hP 0 rfl rfl 0 (by decide) lk7 (fun _ h9 => h9) rfl dX4_giveUp_106 ?_
          refine lv_sipush (v := (nI 650)) hx hb dX4_giveUp_109 (by decide) ?_
          refine lv_iconst (v := (nI 2)) hx hb dX4_giveUp_112 (by decide) ?_
          refine lv_iload_n hx hb dX4_giveUp_113 rfl (lv_at hl 4 rfl) ?_
          refine lv_imul hx hb dX4_giveUp_114 ?_
          refine n_as (x' := nI (2 * kb)) (pk_mul _ _) ?_
          refine lv_iadd hx hb dX4_giveUp_115 ?_
          refine n_as (x' := nI (650 + (2 * kb))) (nI_add _ _) ?_
          refine lv_iconst (v := (nI 1)) hx hb dX4_giveUp_116 (by decide) ?_
          refine lv_iadd hx hb dX4_giveUp_117 ?_
          refine n_as (x' := nI ((650 + (2 * kb)) + 1)) (nI_add _ _) ?_
          refine lv_iconst (v := (nI 0)) hx hb dX4_giveUp_118 (by decide) ?_
          refine n_iast hx hb hK hP hD hS 1 0 rfl rfl (by decide) (by omega) dX4_giveUp_119 (wsN := MW h cI (upd (upd g (650 + (2 * kb)) (nI 0)) ((650 + (2 * kb)) + 1) (nI 0)) past (nI k) now tri tex typed ati) rfl (fun H locs hP hD hS => ?_)
          have eA := guA_s hkb (bI_ct c5) hp hz hpz
          have eg : upd (upd g (650 + 2 * kb) (nI 0)) (650 + 2 * kb + 1) (nI 0) = (guA now (nI kb)).2 := by rw [eA, hg, show i = z by omega]
          rw [eg] at hP hD
          have hP : va_P D vwCl (MW h cI ((guA now (nI kb)).2) past (nI k) now tri tex typed ati) H := hP
          have hD : va_D A0 (MW h cI ((guA now (nI kb)).2) past (nI k) now tri tex typed ati) := hD
          refine lv_aload_n hx hb dX4_giveUp_120 rfl (lv_at hl 3 rfl) ?_
          refine lv_iload_n hx hb dX4_giveUp_121 rfl (lv_at hl 2 rfl) ?_
          refine n_as (x' := ((guA now (nI kb)).1)) (by rw [eA, hn, show i = z by omega]) ?_
          refine cl_Vi (b := (h 0)) (As := [.int ((guA now (nI kb)).1)]) (rest := []) (wc := MW h cI ((guA now (nI kb)).2) past (nI k) now tri tex typed ati) (wsN := fun (_ : Unit) => MW h cI (fnN now (guA now (nI kb)).2 (guA now (nI kb)).1) (fnP past k now (guA now (nI kb)).1) (nI (fnK k (guA now (nI kb)).1)) now tri tex typed ati) F hK hA hP hD hS (c_X4_ends hk) (cwV 1 hts gX4_giveUp_X4_ends rfl rfl rfl (by decide +kernel) ⟨Nat.le_of_ble_eq_true rfl, Nat.le_of_ble_eq_true rfl⟩) [0, 1, 2, 3, 4, 5] [] [0, 1, 2, 3, 4, 5] ([]) rfl rfl (fun _ => rfl) (by decide) (by decide) 0 rfl rfl rfl hl.1 rfl (Nat.le_of_ble_eq_true rfl) ⟨Nat.zero_le _, Nat.zero_le _⟩ dX4_giveUp_122 (fun r_6 _ H locs hw_5 hP hD hS => ?_)
          try dsimp only at hw_5 hP hD
          obtain rfl : r_6 = ((guA now (nI kb)).1) := hw_5
          exact RETN _ _ ((guA now (nI kb)).1) now _ _ dX4_giveUp_125 (rfl) (rfl) hP hD hS
        · skip
          replace c50 : ¬ ((p + z) ≤ (p + i)) := by rw [nI_leI (by omega) (by omega)] at c50; exact c50
          refine lv_aload_n hx hb dX4_giveUp_53 rfl (lv_at hl 3 rfl) ?_
          refine va_get (D := D) (ci := 4) (v := .ref (h 1)) (C := RX4) (T := TX4) (N := 8) hx hb hts hI4 hown hK.1 hP 0 rfl rfl 0 (by decide) lk7 (fun _ h9 => h9) rfl dX4_giveUp_54 ?_
          refine lv_sipush (v := (nI 320)) hx hb dX4_giveUp_57 (by decide) ?_
          refine lv_iload hx hb dX4_giveUp_60 (lv_at hl 0 rfl) ?_
          refine lv_iadd hx hb dX4_giveUp_62 ?_
          refine n_as (x' := nI (320 + (p + i))) (nI_add _ _) ?_
          refine lv_iconst (v := (nI 0)) hx hb dX4_giveUp_63 (by decide) ?_
          refine n_iast hx hb hK hP hD hS 1 0 rfl rfl (by decide) (by omega) dX4_giveUp_64 (wsN := MW h cI (upd g (320 + (p + i)) (nI 0)) past (nI k) now tri tex typed ati) rfl (fun H locs hP hD hS => ?_)
          refine lv_aload_n hx hb dX4_giveUp_65 rfl (lv_at hl 3 rfl) ?_
          refine va_get (D := D) (ci := 4) (v := .ref (h 1)) (C := RX4) (T := TX4) (N := 8) hx hb hts hI4 hown hK.1 hP 0 rfl rfl 0 (by decide) lk7 (fun _ h9 => h9) rfl dX4_giveUp_66 ?_
          refine lv_iload hx hb dX4_giveUp_69 (lv_at hl 0 rfl) ?_
          refine n_iald hx hb hK hP 1 0 rfl rfl (by decide) (by omega) dX4_giveUp_71 ?_
          have hgs : (upd g (320 + (p + i)) (nI 0)) (p + i) = now (p + i) := by rw [upd_n _ _ (by omega), gu_slot hg (by omega)]
          refine lv_iconst (v := (nI 3)) hx hb dX4_giveUp_72 (by decide) ?_
          refine lv_icmp_ne (tgt := 86) hx hb dX4_giveUp_73 (by decide) (fun c73 => ?_) (fun c73 => ?_)
          · skip
            rw [hgs] at c73
            refine lv_iinc (v := (nI ((p + i) + 1))) (lv' := [(4, .int (nI ((p + i) + 1))), (3, .int (nI p)), (2, .int (nI n)), (0, .ref (h 0)), (1, .int (nI kb))]) hx hb dX4_giveUp_86 hl (k := 0) rfl (n_inc1 _) (by decide) rfl (fun ls hl => ?_)
            refine lv_goto (tgt := 32) hx hb dX4_giveUp_89 (by decide) ?_
            exact ih32 (i + 1) n (upd g (320 + (p + i)) (nI 0)) _ _ _ (by omega) (by rw [hn]; unfold guN; rw [fb_ct_succ]; simp [c73]) (by first | exact gu_take hg (by omega) c73 | exact gu_skip hg (by omega) c73) (by omega) hP hD hS (lv_sub hl [0, 1, 2, 3, 4] rfl)
          · skip
            rw [hgs] at c73
            refine lv_aload_n hx hb dX4_giveUp_76 rfl (lv_at hl 3 rfl) ?_
            refine lv_iload hx hb dX4_giveUp_77 (lv_at hl 0 rfl) ?_
            refine lv_iconst (v := (nI 0)) hx hb dX4_giveUp_79 (by decide) ?_
            refine cl_Vv (b := (h 0)) (As := [.int (nI (p + i)), .int (nI 0)]) (rest := []) (wc := MW h cI (upd g (320 + (p + i)) (nI 0)) past (nI k) now tri tex typed ati) (wsN := fun (_ : Unit) => MW h cI (bc1 (upd g (320 + (p + i)) (nI 0)) (p + i) (nI 0)) past (nI k) now tri tex typed ati) F hK hA hP hD hS (c_X4_becomes (by omega)) (cwV 2 hts gX4_giveUp_X4_becomes rfl rfl rfl (by decide +kernel) ⟨Nat.le_of_ble_eq_true rfl, Nat.le_of_ble_eq_true rfl⟩) [0, 1, 2, 3, 4, 5] [] [0, 1, 2, 3, 4, 5] ([]) rfl rfl (fun _ => rfl) (by decide) (by decide) 0 rfl rfl rfl hl.1 rfl (Nat.le_of_ble_eq_true rfl) ⟨Nat.zero_le _, Nat.zero_le _⟩ dX4_giveUp_80 (fun _ H locs hw_7 hP hD hS => ?_)
            try dsimp only at hw_7 hP hD
            refine lv_iinc (v := (nI (n + 1))) (lv' := [(2, .int (nI (n + 1))), (4, .int (nI (p + i))), (3, .int (nI p)), (0, .ref (h 0)), (1, .int (nI kb))]) hx hb dX4_giveUp_83 hl (k := 2) rfl (n_inc1 _) (by decide) rfl (fun ls hl => ?_)
            refine lv_iinc (v := (nI ((p + i) + 1))) (lv' := [(4, .int (nI ((p + i) + 1))), (2, .int (nI (n + 1))), (3, .int (nI p)), (0, .ref (h 0)), (1, .int (nI kb))]) hx hb dX4_giveUp_86 hl (k := 1) rfl (n_inc1 _) (by decide) rfl (fun ls hl => ?_)
            refine lv_goto (tgt := 32) hx hb dX4_giveUp_89 (by decide) ?_
            exact ih32 (i + 1) (n + 1) (bc1 (upd g (320 + (p + i)) (nI 0)) (p + i) (nI 0)) _ _ _ (by omega) (by rw [hn]; unfold guN; rw [fb_ct_succ]; simp [c73]) (by first | exact gu_take hg (by omega) c73 | exact gu_skip hg (by omega) c73) (by omega) hP hD hS (lv_sub hl [0, 2, 1, 3, 4] rfl)
    exact LP32 _ 0 0 now _ _ _ (by omega) (rfl) (gu_0 now p) (Nat.lt_succ_self _) hP hD hS (lv_sub hl [0, 1, 2, 3, 4] rfl)
  · skip
    replace c5 : (bI (isB now v)) = nI 0 := c5
    refine lv_iconst (v := (-1)) hx hb dX4_giveUp_8 (by decide) ?_
    have eA : guA now v = (-1, now) := guA_n (bI_cf c5)
    obtain ⟨e1, e2, e3⟩ := fn_n1 now now past k
    have hP : va_P D vwCl (MW h cI (fnN now (guA now v).2 (guA now v).1) (fnP past k now (guA now v).1) (nI (fnK k (guA now v).1)) bef tri tex typed ati) H := by rw [eA]; dsimp only; rw [e1, e2, e3]; exact hP
    have hD : va_D A0 (MW h cI (fnN now (guA now v).2 (guA now v).1) (fnP past k now (guA now v).1) (nI (fnK k (guA now v).1)) bef tri tex typed ati) := by rw [eA]; dsimp only; rw [e1, e2, e3]; exact hD
    exact RETN _ _ (-1) bef _ _ dX4_giveUp_9 (rfl) (by rw [eA]) hP hD hS
set_option maxHeartbeats 4000000 in
set_option maxRecDepth 100000 in
theorem c_X4_isWord {l : Launch} {D : va_G} {cI cG cC cR : ClassId} {v : Int32} : CtI l yX4_isWord wsX4_isWord { frames := 1, cells := 0, slots := 0, locals := 22 } D (TY cI cG cC cR) [.int v] ([]) (fun (_ : Unit) => []) (fun (r : Int32) (_ : Unit) => r = bI (inB v (nI 0) (nI 9))) := by
  refine CtI.of (cc := cX4_isWord) (maxL := 1) (ty := .boolean) (by decide) rfl (Nat.le_of_ble_eq_true rfl) ?_
  intro P0 e0 s0 m0 a0 b0 t0 c0 A0 Q0 ls F hK hP hD hA RETN hl
  obtain ⟨hx, hb, hml, hown, hts⟩ := id F
  have hS : va_S A0 s0.heap s0.heap [] := va_S.rf
  have hl : lv_has ls 1 [(0, .int v)] := hl
  refine lv_iload_n hx hb dX4_isWord_0 rfl (lv_at hl 0 rfl) ?_
  refine lv_iconst (v := (nI 0)) hx hb dX4_isWord_1 (by decide) ?_
  refine lv_bipush (v := (nI 9)) hx hb dX4_isWord_2 (by decide) ?_
  refine cl_S0 (As := [.int v, .int (nI 0), .int (nI 9)]) (rest := []) F hK hA hP hD hS (c_X4_in) (va_cwS 3 hts gX4_isWord_X4_in rfl rfl rfl (by decide +kernel) ⟨Nat.le_of_ble_eq_true rfl, Nat.le_of_ble_eq_true rfl⟩) rfl hl.1 rfl (Nat.le_of_ble_eq_true rfl) ⟨Nat.zero_le _, Nat.zero_le _⟩ dX4_isWord_4 (fun r_1 H locs hw_2 hP hS => ?_)
  try dsimp only at hw_2
  obtain rfl : r_1 = (bI (inB v (nI 0) (nI 9))) := hw_2
  exact RETN _ _ (bI (inB v (nI 0) (nI 9))) () _ _ dX4_isWord_7 (bI_z _) (rfl) hP hD hS
set_option maxHeartbeats 4000000 in
set_option maxRecDepth 100000 in
theorem c_X4_damages {l : Launch} {D : va_G} {cI cG cC cR : ClassId} {h : Nat → Nat} {now past bef tri tex : Nat → Int32} {pasts typed ati : Int32} {v : Int32} : CtI l yX4_damages wsX4_damages { frames := 2, cells := 0, slots := 0, locals := 42 } D (TY cI cG cC cR) [.ref (h 0), .int v] (MW h cI now past pasts bef tri tex typed ati) (fun (u : Nat → Int32) => MW h cI u past pasts bef tri tex typed ati) (fun (r : Int32) (u : Nat → Int32) => r = (dmA now v).1 ∧ u = (dmA now v).2) := by
  refine CtI.of (cc := cX4_damages) (maxL := 2) (ty := .int) (by decide) rfl (Nat.le_of_ble_eq_true rfl) ?_
  intro P0 e0 s0 m0 a0 b0 t0 c0 A0 Q0 ls F hK hP hD hA RETN hl
  obtain ⟨hx, hb, hml, hown, hts⟩ := id F
  have hS : va_S A0 s0.heap s0.heap [] := va_S.rf
  have hl : lv_has ls 2 [(0, .ref (h 0)), (1, .int v)] := hl
  have lk7 := hts (.fieldLink RX4 7 "SlotMapsModel" "now" "[I") (by decide +kernel)
  have hI4 : ∀ w ∈ u_ws RX4 TX4 8, w ∈ wsX4_damages := by decide +kernel
  refine lv_iload_n hx hb dX4_damages_0 rfl (lv_at hl 1 rfl) ?_
  refine cl_S0 (As := [.int v]) (rest := []) F hK hA hP hD hS (c_X4_isWord) (va_cwS 1 hts gX4_damages_X4_isWord rfl rfl rfl (by decide +kernel) ⟨Nat.le_of_ble_eq_true rfl, Nat.le_of_ble_eq_true rfl⟩) rfl hl.1 rfl (Nat.le_of_ble_eq_true rfl) ⟨Nat.zero_le _, Nat.zero_le _⟩ dX4_damages_1 (fun r_1 H locs hw_2 hP hS => ?_)
  try dsimp only at hw_2
  obtain rfl : r_1 = (bI (inB v (nI 0) (nI 9))) := hw_2
  refine lv_if_ne (tgt := 9) hx hb dX4_damages_4 (by decide) (fun c4 => ?_) (fun c4 => ?_)
  · skip
    replace c4 : ¬ (bI (inB v (nI 0) (nI 9))) = nI 0 := c4
    obtain ⟨w, hlo_w, hhi_w, rfl⟩ := inB_nat (by omega) (by omega) (bI_ct c4)
    refine lv_aload_n hx hb dX4_damages_9 rfl (lv_at hl 0 rfl) ?_
    refine va_get (D := D) (ci := 4) (v := .ref (h 1)) (C := RX4) (T := TX4) (N := 8) hx hb hts hI4 hown hK.1 hP 0 rfl rfl 0 (by decide) lk7 (fun _ h9 => h9) rfl dX4_damages_10 ?_
    refine lv_sipush (v := (nI 640)) hx hb dX4_damages_13 (by decide) ?_
    refine lv_iload_n hx hb dX4_damages_16 rfl (lv_at hl 1 rfl) ?_
    refine lv_iadd hx hb dX4_damages_17 ?_
    refine n_as (x' := nI (640 + w)) (nI_add _ _) ?_
    refine lv_iconst (v := (nI 1)) hx hb dX4_damages_18 (by decide) ?_
    refine lv_aload_n hx hb dX4_damages_19 rfl (lv_at hl 0 rfl) ?_
    refine va_get (D := D) (ci := 4) (v := .ref (h 1)) (C := RX4) (T := TX4) (N := 8) hx hb hts hI4 hown hK.1 hP 0 rfl rfl 0 (by decide) lk7 (fun _ h9 => h9) rfl dX4_damages_20 ?_
    refine lv_sipush (v := (nI 640)) hx hb dX4_damages_23 (by decide) ?_
    refine lv_iload_n hx hb dX4_damages_26 rfl (lv_at hl 1 rfl) ?_
    refine lv_iadd hx hb dX4_damages_27 ?_
    refine n_as (x' := nI (640 + w)) (nI_add _ _) ?_
    refine n_iald hx hb hK hP 1 0 rfl rfl (by decide) (by omega) dX4_damages_28 ?_
    refine lv_isub hx hb dX4_damages_29 ?_
    refine n_iast hx hb hK hP hD hS 1 0 rfl rfl (by decide) (by omega) dX4_damages_30 (wsN := MW h cI (upd now (640 + w) ((nI 1) - (now (640 + w)))) past pasts bef tri tex typed ati) rfl (fun H locs hP hD hS => ?_)
    refine lv_aload_n hx hb dX4_damages_31 rfl (lv_at hl 0 rfl) ?_
    refine va_get (D := D) (ci := 4) (v := .ref (h 1)) (C := RX4) (T := TX4) (N := 8) hx hb hts hI4 hown hK.1 hP 0 rfl rfl 0 (by decide) lk7 (fun _ h9 => h9) rfl dX4_damages_32 ?_
    refine lv_sipush (v := (nI 640)) hx hb dX4_damages_35 (by decide) ?_
    refine lv_iload_n hx hb dX4_damages_38 rfl (lv_at hl 1 rfl) ?_
    refine lv_iadd hx hb dX4_damages_39 ?_
    refine n_as (x' := nI (640 + w)) (nI_add _ _) ?_
    refine n_iald hx hb hK hP 1 0 rfl rfl (by decide) (by omega) dX4_damages_40 ?_
    exact RETN _ _ ((upd now (640 + w) ((nI 1) - (now (640 + w)))) (640 + w)) (upd now (640 + w) ((nI 1) - (now (640 + w)))) _ _ dX4_damages_41 (rfl) (by rw [dmA_s (by omega)]; exact ⟨upd_s _ _ _, rfl⟩) hP hD hS
  · skip
    replace c4 : (bI (inB v (nI 0) (nI 9))) = nI 0 := c4
    refine lv_iconst (v := (-1)) hx hb dX4_damages_7 (by decide) ?_
    exact RETN _ _ (-1) now _ _ dX4_damages_8 (rfl) (by rw [dmA_n (bI_cf c4)]; exact ⟨rfl, rfl⟩) hP hD hS
set_option maxHeartbeats 4000000 in
set_option maxRecDepth 100000 in
theorem c_X4_damage {l : Launch} {D : va_G} {cI cG cC cR : ClassId} {h : Nat → Nat} {now past bef tri tex : Nat → Int32} {typed ati : Int32} {k : Nat} (hk : k ≤ 5) {v : Int32} : CtI l yX4_damage wsX4_damage { frames := 3, cells := 0, slots := 0, locals := 63 } D (TY cI cG cC cR) [.ref (h 0), .int v] (MW h cI now past (nI k) bef tri tex typed ati) (fun (u : Nat → Int32) => MW h cI (fnN now (dmA now v).2 (dmA now v).1) (fnP past k now (dmA now v).1) (nI (fnK k (dmA now v).1)) u tri tex typed ati) (fun (r : Int32) (u : Nat → Int32) => r = (dmA now v).1) := by
  refine CtI.of (cc := cX4_damage) (maxL := 2) (ty := .int) (by decide) rfl (Nat.le_of_ble_eq_true rfl) ?_
  intro P0 e0 s0 m0 a0 b0 t0 c0 A0 Q0 ls F hK hP hD hA RETN hl
  obtain ⟨hx, hb, hml, hown, hts⟩ := id F
  have hS : va_S A0 s0.heap s0.heap [] := va_S.rf
  have hl : lv_has ls 2 [(0, .ref (h 0)), (1, .int v)] := hl
  refine lv_aload_n hx hb dX4_damage_0 rfl (lv_at hl 0 rfl) ?_
  refine cl_Vv (b := (h 0)) (As := []) (rest := []) (wc := MW h cI now past (nI k) bef tri tex typed ati) (wsN := fun (_ : Unit) => MW h cI now past (nI k) now tri tex typed ati) F hK hA hP hD hS (c_X4_notes) (cwV 0 hts gX4_damage_X4_notes rfl rfl rfl (by decide +kernel) ⟨Nat.le_of_ble_eq_true rfl, Nat.le_of_ble_eq_true rfl⟩) [0, 1, 2, 3, 4, 5] [] [0, 1, 2, 3, 4, 5] ([]) rfl rfl (fun _ => rfl) (by decide) (by decide) 0 rfl rfl rfl hl.1 rfl (Nat.le_of_ble_eq_true rfl) ⟨Nat.zero_le _, Nat.zero_le _⟩ dX4_damage_1 (fun _ H locs hw_1 hP hD hS => ?_)
  try dsimp only at hw_1 hP hD
  refine lv_aload_n hx hb dX4_damage_4 rfl (lv_at hl 0 rfl) ?_
  refine lv_aload_n hx hb dX4_damage_5 rfl (lv_at hl 0 rfl) ?_
  refine lv_iload_n hx hb dX4_damage_6 rfl (lv_at hl 1 rfl) ?_
  refine cl_Vi (b := (h 0)) (As := [.int v]) (rest := [.ref (h 0)]) (wc := MW h cI now past (nI k) now tri tex typed ati) (wsN := fun (u1 : Nat → Int32) => MW h cI u1 past (nI k) now tri tex typed ati) F hK hA hP hD hS (c_X4_damages) (cwV 1 hts gX4_damage_X4_damages rfl rfl rfl (by decide +kernel) ⟨Nat.le_of_ble_eq_true rfl, Nat.le_of_ble_eq_true rfl⟩) [0, 1, 2, 3, 4, 5] [] [0, 1, 2, 3, 4, 5] ([]) rfl rfl (fun _ => rfl) (by decide) (by decide) 0 rfl rfl rfl hl.1 rfl (Nat.le_of_ble_eq_true rfl) ⟨Nat.zero_le _, Nat.zero_le _⟩ dX4_damage_7 (fun r1 u1 H locs hw_3 hP hD hS => ?_)
  try dsimp only at hw_3 hP hD
  obtain ⟨rfl, rfl⟩ := hw_3
  have hP : va_P D vwCl (MW h cI ((dmA now v).2) past (nI k) now tri tex typed ati) H := hP
  have hD : va_D A0 (MW h cI ((dmA now v).2) past (nI k) now tri tex typed ati) := hD
  refine cl_Vi (b := (h 0)) (As := [.int ((dmA now v).1)]) (rest := []) (wc := MW h cI ((dmA now v).2) past (nI k) now tri tex typed ati) (wsN := fun (_ : Unit) => MW h cI (fnN now (dmA now v).2 (dmA now v).1) (fnP past k now (dmA now v).1) (nI (fnK k (dmA now v).1)) now tri tex typed ati) F hK hA hP hD hS (c_X4_ends hk) (cwV 1 hts gX4_damage_X4_ends rfl rfl rfl (by decide +kernel) ⟨Nat.le_of_ble_eq_true rfl, Nat.le_of_ble_eq_true rfl⟩) [0, 1, 2, 3, 4, 5] [] [0, 1, 2, 3, 4, 5] ([]) rfl rfl (fun _ => rfl) (by decide) (by decide) 0 rfl rfl rfl hl.1 rfl (Nat.le_of_ble_eq_true rfl) ⟨Nat.zero_le _, Nat.zero_le _⟩ dX4_damage_10 (fun r_6 _ H locs hw_5 hP hD hS => ?_)
  try dsimp only at hw_5 hP hD
  obtain rfl : r_6 = ((dmA now v).1) := hw_5
  exact RETN _ _ ((dmA now v).1) now _ _ dX4_damage_13 (rfl) (rfl) hP hD hS
set_option maxHeartbeats 4000000 in
set_option maxRecDepth 100000 in
theorem c_X4_repairs {l : Launch} {D : va_G} {cI cG cC cR : ClassId} {h : Nat → Nat} {now past bef tri tex : Nat → Int32} {pasts typed ati : Int32} : CtI l yX4_repairs wsX4_repairs { frames := 2, cells := 0, slots := 0, locals := 45 } D (TY cI cG cC cR) [.ref (h 0)] (MW h cI now past pasts bef tri tex typed ati) (fun (u : Nat → Int32) => MW h cI u past pasts bef tri tex typed ati) (fun (r : Int32) (u : Nat → Int32) => r = (rpA now).1 ∧ u = (rpA now).2) := by
  refine CtI.of (cc := cX4_repairs) (maxL := 3) (ty := .int) (by decide) rfl (Nat.le_of_ble_eq_true rfl) ?_
  intro P0 e0 s0 m0 a0 b0 t0 c0 A0 Q0 ls F hK hP hD hA RETN hl
  obtain ⟨hx, hb, hml, hown, hts⟩ := id F
  have hS : va_S A0 s0.heap s0.heap [] := va_S.rf
  have hl : lv_has ls 3 [(0, .ref (h 0))] := hl
  have lk7 := hts (.fieldLink RX4 7 "SlotMapsModel" "now" "[I") (by decide +kernel)
  have hI4 : ∀ w ∈ u_ws RX4 TX4 8, w ∈ wsX4_repairs := by decide +kernel
  refine lv_iconst (v := (nI 0)) hx hb dX4_repairs_0 (by decide) ?_
  refine lv_istore_n (lv' := [(1, .int (nI 0)), (0, .ref (h 0))]) hx hb dX4_repairs_1 rfl hl (by decide) rfl (fun ls hl => ?_)
  refine lv_iconst (v := (nI 0)) hx hb dX4_repairs_2 (by decide) ?_
  refine lv_istore_n (lv' := [(2, .int (nI 0)), (1, .int (nI 0)), (0, .ref (h 0))]) hx hb dX4_repairs_3 rfl hl (by decide) rfl (fun ls hl => ?_)
  have LP4 : ∀ (nn : Nat) (w : Nat) (n : Nat) (g : Nat → Int32) (H : Heap) (locs : List Loc) (ls : Array Slot), w ≤ 10 → n = rpN now w → g = rpF now w → 10 - w < nn → va_P D vwCl (MW h cI g past pasts bef tri tex typed ati) H → va_D A0 (MW h cI g past pasts bef tri tex typed ati) → va_S A0 s0.heap H locs → lv_has ls 3 [(2, .int (nI w)), (1, .int (nI n)), (0, .ref (h 0))] → W P0 l e0 { frames := 2, cells := 0, slots := 0, locals := 45 } s0 m0 a0 b0 t0 c0 H locs 0 0 Q0 (F0 m0 4 ls []) := by
    intro nn
    induction nn with
    | zero => intro w n g H locs ls hw hn hg hmu; exact absurd hmu (Nat.not_lt_zero _)
    | succ nn ih4 =>
      intro w n g H locs ls hw hn hg hmu4 hP hD hS hl
      refine lv_iload_n hx hb dX4_repairs_4 rfl (lv_at hl 0 rfl) ?_
      refine lv_bipush (v := (nI 10)) hx hb dX4_repairs_5 (by decide) ?_
      refine lv_icmp_ge (tgt := 57) hx hb dX4_repairs_7 (by decide) (fun c7 => ?_) (fun c7 => ?_)
      · skip
        replace c7 : 10 ≤ w := by rw [nI_leI (by omega) (by omega)] at c7; exact c7
        refine lv_iload_n hx hb dX4_repairs_57 rfl (lv_at hl 1 rfl) ?_
        exact RETN _ _ (nI n) g _ _ dX4_repairs_58 (rfl) (by have ew : w = 10 := (by omega); exact ⟨by rw [hn, ew]; rfl, by rw [hg, ew]; rfl⟩) hP hD hS
      · skip
        replace c7 : ¬ (10 ≤ w) := by rw [nI_leI (by omega) (by omega)] at c7; exact c7
        refine lv_iload_n hx hb dX4_repairs_10 rfl (lv_at hl 1 rfl) ?_
        refine lv_aload_n hx hb dX4_repairs_11 rfl (lv_at hl 2 rfl) ?_
        refine va_get (D := D) (ci := 4) (v := .ref (h 1)) (C := RX4) (T := TX4) (N := 8) hx hb hts hI4 hown hK.1 hP 0 rfl rfl 0 (by decide) lk7 (fun _ h9 => h9) rfl dX4_repairs_12 ?_
        refine lv_sipush (v := (nI 640)) hx hb dX4_repairs_15 (by decide) ?_
        refine lv_iload_n hx hb dX4_repairs_18 rfl (lv_at hl 0 rfl) ?_
        refine lv_iadd hx hb dX4_repairs_19 ?_
        refine n_as (x' := nI (640 + w)) (nI_add _ _) ?_
        refine n_iald hx hb hK hP 1 0 rfl rfl (by decide) (by omega) dX4_repairs_20 ?_
        refine lv_aload_n hx hb dX4_repairs_21 rfl (lv_at hl 2 rfl) ?_
        refine lv_iload_n hx hb dX4_repairs_22 rfl (lv_at hl 0 rfl) ?_
        refine cl_Vi (b := (h 0)) (As := [.int (nI w)]) (rest := [.int (g (640 + w)), .int (nI n)]) (wc := MW h cI g past pasts bef tri tex typed ati) (wsN := fun (_ : Unit) => MW h cI g past pasts bef tri tex typed ati) F hK hA hP hD hS (c_X4_right (by omega)) (cwV 1 hts gX4_repairs_X4_right rfl rfl rfl (by decide +kernel) ⟨Nat.le_of_ble_eq_true rfl, Nat.le_of_ble_eq_true rfl⟩) [0, 1, 2, 3, 4, 5] [] [0, 1, 2, 3, 4, 5] ([]) rfl rfl (fun _ => rfl) (by decide) (by decide) 0 rfl rfl rfl hl.1 rfl (Nat.le_of_ble_eq_true rfl) ⟨Nat.zero_le _, Nat.zero_le _⟩ dX4_repairs_23 (fun r_2 _ H locs hw_1 hP hD hS => ?_)
        try dsimp only at hw_1 hP hD
        obtain rfl : r_2 = (rt now w) := by rw [hw_1, rp_rt hg (by omega)]
        refine lv_icmp_eq (tgt := 33) hx hb dX4_repairs_26 (by decide) (fun c26 => ?_) (fun c26 => ?_)
        · skip
          rw [rp_at hg] at c26
          refine lv_iconst (v := (nI 0)) hx hb dX4_repairs_33 (by decide) ?_
          refine lv_iadd hx hb dX4_repairs_34 ?_
          refine n_as (x' := nI (n + 0)) (nI_add _ _) ?_
          refine lv_istore_n (lv' := [(1, .int (nI (n + 0))), (2, .int (nI w)), (0, .ref (h 0))]) hx hb dX4_repairs_35 rfl hl (by decide) rfl (fun ls hl => ?_)
          refine lv_aload_n hx hb dX4_repairs_36 rfl (lv_at hl 2 rfl) ?_
          refine va_get (D := D) (ci := 4) (v := .ref (h 1)) (C := RX4) (T := TX4) (N := 8) hx hb hts hI4 hown hK.1 hP 0 rfl rfl 0 (by decide) lk7 (fun _ h9 => h9) rfl dX4_repairs_37 ?_
          refine lv_sipush (v := (nI 640)) hx hb dX4_repairs_40 (by decide) ?_
          refine lv_iload_n hx hb dX4_repairs_43 rfl (lv_at hl 1 rfl) ?_
          refine lv_iadd hx hb dX4_repairs_44 ?_
          refine n_as (x' := nI (640 + w)) (nI_add _ _) ?_
          refine lv_aload_n hx hb dX4_repairs_45 rfl (lv_at hl 2 rfl) ?_
          refine lv_iload_n hx hb dX4_repairs_46 rfl (lv_at hl 1 rfl) ?_
          refine cl_Vi (b := (h 0)) (As := [.int (nI w)]) (rest := [.int (nI (640 + w)), .ref (h 1)]) (wc := MW h cI g past pasts bef tri tex typed ati) (wsN := fun (_ : Unit) => MW h cI g past pasts bef tri tex typed ati) F hK hA hP hD hS (c_X4_right (by omega)) (cwV 1 hts gX4_repairs_X4_right rfl rfl rfl (by decide +kernel) ⟨Nat.le_of_ble_eq_true rfl, Nat.le_of_ble_eq_true rfl⟩) [0, 1, 2, 3, 4, 5] [] [0, 1, 2, 3, 4, 5] ([]) rfl rfl (fun _ => rfl) (by decide) (by decide) 0 rfl rfl rfl hl.1 rfl (Nat.le_of_ble_eq_true rfl) ⟨Nat.zero_le _, Nat.zero_le _⟩ dX4_repairs_47 (fun r_4 _ H locs hw_3 hP hD hS => ?_)
          try dsimp only at hw_3 hP hD
          obtain rfl : r_4 = (rt now w) := by rw [hw_3, rp_rt hg (by omega)]
          refine n_iast hx hb hK hP hD hS 1 0 rfl rfl (by decide) (by omega) dX4_repairs_50 (wsN := MW h cI (upd g (640 + w) (rt now w)) past pasts bef tri tex typed ati) rfl (fun H locs hP hD hS => ?_)
          refine lv_iinc (v := (nI (w + 1))) (lv' := [(2, .int (nI (w + 1))), (1, .int (nI (n + 0))), (0, .ref (h 0))]) hx hb dX4_repairs_51 hl (k := 1) rfl (n_inc1 _) (by decide) rfl (fun ls hl => ?_)
          refine lv_goto (tgt := 4) hx hb dX4_repairs_54 (by decide) ?_
          exact ih4 (w + 1) (n + 0) (upd g (640 + w) (rt now w)) _ _ _ (by omega) (by rw [hn]; unfold rpN; rw [fb_ct_succ]; simp [c26]) (rp_s hg) (by omega) hP hD hS (lv_sub hl [0, 1, 2] rfl)
        · skip
          rw [rp_at hg] at c26
          refine lv_iconst (v := (nI 1)) hx hb dX4_repairs_29 (by decide) ?_
          refine lv_goto (tgt := 34) hx hb dX4_repairs_30 (by decide) ?_
          refine lv_iadd hx hb dX4_repairs_34 ?_
          refine n_as (x' := nI (n + 1)) (nI_add _ _) ?_
          refine lv_istore_n (lv' := [(1, .int (nI (n + 1))), (2, .int (nI w)), (0, .ref (h 0))]) hx hb dX4_repairs_35 rfl hl (by decide) rfl (fun ls hl => ?_)
          refine lv_aload_n hx hb dX4_repairs_36 rfl (lv_at hl 2 rfl) ?_
          refine va_get (D := D) (ci := 4) (v := .ref (h 1)) (C := RX4) (T := TX4) (N := 8) hx hb hts hI4 hown hK.1 hP 0 rfl rfl 0 (by decide) lk7 (fun _ h9 => h9) rfl dX4_repairs_37 ?_
          refine lv_sipush (v := (nI 640)) hx hb dX4_repairs_40 (by decide) ?_
          refine lv_iload_n hx hb dX4_repairs_43 rfl (lv_at hl 1 rfl) ?_
          refine lv_iadd hx hb dX4_repairs_44 ?_
          refine n_as (x' := nI (640 + w)) (nI_add _ _) ?_
          refine lv_aload_n hx hb dX4_repairs_45 rfl (lv_at hl 2 rfl) ?_
          refine lv_iload_n hx hb dX4_repairs_46 rfl (lv_at hl 1 rfl) ?_
          refine cl_Vi (b := (h 0)) (As := [.int (nI w)]) (rest := [.int (nI (640 + w)), .ref (h 1)]) (wc := MW h cI g past pasts bef tri tex typed ati) (wsN := fun (_ : Unit) => MW h cI g past pasts bef tri tex typed ati) F hK hA hP hD hS (c_X4_right (by omega)) (cwV 1 hts gX4_repairs_X4_right rfl rfl rfl (by decide +kernel) ⟨Nat.le_of_ble_eq_true rfl, Nat.le_of_ble_eq_true rfl⟩) [0, 1, 2, 3, 4, 5] [] [0, 1, 2, 3, 4, 5] ([]) rfl rfl (fun _ => rfl) (by decide) (by decide) 0 rfl rfl rfl hl.1 rfl (Nat.le_of_ble_eq_true rfl) ⟨Nat.zero_le _, Nat.zero_le _⟩ dX4_repairs_47 (fun r_6 _ H locs hw_5 hP hD hS => ?_)
          try dsimp only at hw_5 hP hD
          obtain rfl : r_6 = (rt now w) := by rw [hw_5, rp_rt hg (by omega)]
          refine n_iast hx hb hK hP hD hS 1 0 rfl rfl (by decide) (by omega) dX4_repairs_50 (wsN := MW h cI (upd g (640 + w) (rt now w)) past pasts bef tri tex typed ati) rfl (fun H locs hP hD hS => ?_)
          refine lv_iinc (v := (nI (w + 1))) (lv' := [(2, .int (nI (w + 1))), (1, .int (nI (n + 1))), (0, .ref (h 0))]) hx hb dX4_repairs_51 hl (k := 1) rfl (n_inc1 _) (by decide) rfl (fun ls hl => ?_)
          refine lv_goto (tgt := 4) hx hb dX4_repairs_54 (by decide) ?_
          exact ih4 (w + 1) (n + 1) (upd g (640 + w) (rt now w)) _ _ _ (by omega) (by rw [hn]; unfold rpN; rw [fb_ct_succ]; simp [c26]) (rp_s hg) (by omega) hP hD hS (lv_sub hl [0, 1, 2] rfl)
  exact LP4 _ 0 0 now _ _ _ (by omega) (rfl) (rp_0 now) (Nat.lt_succ_self _) hP hD hS (lv_sub hl [0, 1, 2] rfl)
set_option maxHeartbeats 4000000 in
set_option maxRecDepth 100000 in
theorem c_X4_repair {l : Launch} {D : va_G} {cI cG cC cR : ClassId} {h : Nat → Nat} {now past bef tri tex : Nat → Int32} {typed ati : Int32} {k : Nat} (hk : k ≤ 5)  : CtI l yX4_repair wsX4_repair { frames := 3, cells := 0, slots := 0, locals := 67 } D (TY cI cG cC cR) [.ref (h 0)] (MW h cI now past (nI k) bef tri tex typed ati) (fun (u : Nat → Int32) => MW h cI (fnN now (rpA now).2 (rpA now).1) (fnP past k now (rpA now).1) (nI (fnK k (rpA now).1)) u tri tex typed ati) (fun (r : Int32) (u : Nat → Int32) => r = (rpA now).1) := by
  refine CtI.of (cc := cX4_repair) (maxL := 1) (ty := .int) (by decide) rfl (Nat.le_of_ble_eq_true rfl) ?_
  intro P0 e0 s0 m0 a0 b0 t0 c0 A0 Q0 ls F hK hP hD hA RETN hl
  obtain ⟨hx, hb, hml, hown, hts⟩ := id F
  have hS : va_S A0 s0.heap s0.heap [] := va_S.rf
  have hl : lv_has ls 1 [(0, .ref (h 0))] := hl
  refine lv_aload_n hx hb dX4_repair_0 rfl (lv_at hl 0 rfl) ?_
  refine cl_Vv (b := (h 0)) (As := []) (rest := []) (wc := MW h cI now past (nI k) bef tri tex typed ati) (wsN := fun (_ : Unit) => MW h cI now past (nI k) now tri tex typed ati) F hK hA hP hD hS (c_X4_notes) (cwV 0 hts gX4_repair_X4_notes rfl rfl rfl (by decide +kernel) ⟨Nat.le_of_ble_eq_true rfl, Nat.le_of_ble_eq_true rfl⟩) [0, 1, 2, 3, 4, 5] [] [0, 1, 2, 3, 4, 5] ([]) rfl rfl (fun _ => rfl) (by decide) (by decide) 0 rfl rfl rfl hl.1 rfl (Nat.le_of_ble_eq_true rfl) ⟨Nat.zero_le _, Nat.zero_le _⟩ dX4_repair_1 (fun _ H locs hw_1 hP hD hS => ?_)
  try dsimp only at hw_1 hP hD
  refine lv_aload_n hx hb dX4_repair_4 rfl (lv_at hl 0 rfl) ?_
  refine lv_aload_n hx hb dX4_repair_5 rfl (lv_at hl 0 rfl) ?_
  refine cl_Vi (b := (h 0)) (As := []) (rest := [.ref (h 0)]) (wc := MW h cI now past (nI k) now tri tex typed ati) (wsN := fun (u1 : Nat → Int32) => MW h cI u1 past (nI k) now tri tex typed ati) F hK hA hP hD hS (c_X4_repairs) (cwV 0 hts gX4_repair_X4_repairs rfl rfl rfl (by decide +kernel) ⟨Nat.le_of_ble_eq_true rfl, Nat.le_of_ble_eq_true rfl⟩) [0, 1, 2, 3, 4, 5] [] [0, 1, 2, 3, 4, 5] ([]) rfl rfl (fun _ => rfl) (by decide) (by decide) 0 rfl rfl rfl hl.1 rfl (Nat.le_of_ble_eq_true rfl) ⟨Nat.zero_le _, Nat.zero_le _⟩ dX4_repair_6 (fun r1 u1 H locs hw_3 hP hD hS => ?_)
  try dsimp only at hw_3 hP hD
  obtain ⟨rfl, rfl⟩ := hw_3
  have hP : va_P D vwCl (MW h cI ((rpA now).2) past (nI k) now tri tex typed ati) H := hP
  have hD : va_D A0 (MW h cI ((rpA now).2) past (nI k) now tri tex typed ati) := hD
  refine cl_Vi (b := (h 0)) (As := [.int ((rpA now).1)]) (rest := []) (wc := MW h cI ((rpA now).2) past (nI k) now tri tex typed ati) (wsN := fun (_ : Unit) => MW h cI (fnN now (rpA now).2 (rpA now).1) (fnP past k now (rpA now).1) (nI (fnK k (rpA now).1)) now tri tex typed ati) F hK hA hP hD hS (c_X4_ends hk) (cwV 1 hts gX4_repair_X4_ends rfl rfl rfl (by decide +kernel) ⟨Nat.le_of_ble_eq_true rfl, Nat.le_of_ble_eq_true rfl⟩) [0, 1, 2, 3, 4, 5] [] [0, 1, 2, 3, 4, 5] ([]) rfl rfl (fun _ => rfl) (by decide) (by decide) 0 rfl rfl rfl hl.1 rfl (Nat.le_of_ble_eq_true rfl) ⟨Nat.zero_le _, Nat.zero_le _⟩ dX4_repair_9 (fun r_6 _ H locs hw_5 hP hD hS => ?_)
  try dsimp only at hw_5 hP hD
  obtain rfl : r_6 = ((rpA now).1) := hw_5
  exact RETN _ _ ((rpA now).1) now _ _ dX4_repair_12 (rfl) (rfl) hP hD hS
set_option maxHeartbeats 4000000 in
set_option maxRecDepth 100000 in
theorem c_X4_undo {l : Launch} {D : va_G} {cI cG cC cR : ClassId} {h : Nat → Nat} {now past bef tri tex : Nat → Int32} {typed ati : Int32} {k : Nat} (hk : k ≤ 5) : CtI l yX4_undo wsX4_undo { frames := 1, cells := 0, slots := 0, locals := 24 } D (TY cI cG cC cR) [.ref (h 0)] (MW h cI now past (nI k) bef tri tex typed ati) (fun (_ : Unit) => MW h cI (unN now past k) past (nI (k - 1)) bef tri tex typed ati) (fun (r : Int32) (_ : Unit) => r = unA k) := by
  refine CtI.of (cc := cX4_undo) (maxL := 1) (ty := .int) (by decide) rfl (Nat.le_of_ble_eq_true rfl) ?_
  intro P0 e0 s0 m0 a0 b0 t0 c0 A0 Q0 ls F hK hP hD hA RETN hl
  obtain ⟨hx, hb, hml, hown, hts⟩ := id F
  have hS : va_S A0 s0.heap s0.heap [] := va_S.rf
  have hl : lv_has ls 1 [(0, .ref (h 0))] := hl
  have lk13 := hts (.fieldLink RX4 13 "SlotMapsModel" "past" "[I") (by decide +kernel)
  have lk29 := hts (.fieldLink RX4 29 "SlotMapsModel" "pasts" "I") (by decide +kernel)
  have lk7 := hts (.fieldLink RX4 7 "SlotMapsModel" "now" "[I") (by decide +kernel)
  have hI4 : ∀ w ∈ u_ws RX4 TX4 8, w ∈ wsX4_undo := by decide +kernel
  refine lv_aload_n hx hb dX4_undo_0 rfl (lv_at hl 0 rfl) ?_
  refine va_get (D := D) (ci := 4) (v := .int (nI k)) (C := RX4) (T := TX4) (N := 8) hx hb hts hI4 hown hK.1 hP 0 rfl rfl 2 (by decide) lk29 (fun _ h9 => h9) rfl dX4_undo_1 ?_
  refine lv_if_ne (tgt := 10) hx hb dX4_undo_4 (by decide) (fun c4 => ?_) (fun c4 => ?_)
  · skip
    replace c4 : ¬ k = 0 := by rw [show (0 : Int32) = nI 0 from rfl, nI_eq (by omega) (by omega)] at c4; exact c4
    refine lv_aload_n hx hb dX4_undo_10 rfl (lv_at hl 0 rfl) ?_
    refine lv_dup hx hb dX4_undo_11 rfl ?_
    refine va_get (D := D) (ci := 4) (v := .int (nI k)) (C := RX4) (T := TX4) (N := 8) hx hb hts hI4 hown hK.1 hP 0 rfl rfl 2 (by decide) lk29 (fun _ h9 => h9) rfl dX4_undo_12 ?_
    refine lv_iconst (v := (nI 1)) hx hb dX4_undo_15 (by decide) ?_
    refine lv_isub hx hb dX4_undo_16 ?_
    refine n_as (x' := nI (k - 1)) (pk_sub (by omega)) ?_
    refine va_put (D := D) (ci := 4) (v := .int (nI (k - 1))) (ty := .int) (C := RX4) (T := TX4) (N := 8) hx hb hts hI4 tyX4 tyX4_ok nmX4 hown hK.1 hP hD hS 0 rfl rfl 2 (by decide) lk29 (fun _ h9 => h9) rfl (by decide +kernel) rfl rfl (Nat.le_of_ble_eq_true rfl) dX4_undo_17 (fun H locs hP hD hS => ?_)
    have hP : va_P D vwCl (MW h cI now past (nI (k - 1)) bef tri tex typed ati) H := hP
    have hD : va_D A0 (MW h cI now past (nI (k - 1)) bef tri tex typed ati) := hD
    refine lv_aload_n hx hb dX4_undo_20 rfl (lv_at hl 0 rfl) ?_
    refine va_get (D := D) (ci := 4) (v := .ref (h 2)) (C := RX4) (T := TX4) (N := 8) hx hb hts hI4 hown hK.1 hP 0 rfl rfl 1 (by decide) lk13 (fun _ h9 => h9) rfl dX4_undo_21 ?_
    refine lv_aload_n hx hb dX4_undo_24 rfl (lv_at hl 0 rfl) ?_
    refine va_get (D := D) (ci := 4) (v := .int (nI (k - 1))) (C := RX4) (T := TX4) (N := 8) hx hb hts hI4 hown hK.1 hP 0 rfl rfl 2 (by decide) lk29 (fun _ h9 => h9) rfl dX4_undo_25 ?_
    refine lv_sipush (v := (nI 667)) hx hb dX4_undo_28 (by decide) ?_
    refine lv_imul hx hb dX4_undo_31 ?_
    refine n_as (x' := nI ((k - 1) * 667)) (pk_mul _ _) ?_
    refine lv_aload_n hx hb dX4_undo_32 rfl (lv_at hl 0 rfl) ?_
    refine va_get (D := D) (ci := 4) (v := .ref (h 1)) (C := RX4) (T := TX4) (N := 8) hx hb hts hI4 hown hK.1 hP 0 rfl rfl 0 (by decide) lk7 (fun _ h9 => h9) rfl dX4_undo_33 ?_
    refine lv_iconst (v := (nI 0)) hx hb dX4_undo_36 (by decide) ?_
    refine cl_Sv (As := [.ref (h 2), .int (nI ((k - 1) * 667)), .ref (h 1), .int (nI 0)]) (rest := []) (wc := [(h 2, .inl (cI, 3335, .inl past)), (h 1, .inl (cI, 667, .inl now))]) (wsN := fun (_ : Unit) => MW h cI (va_cpy past now ((k - 1) * 667) 0 667) past (nI (k - 1)) bef tri tex typed ati) F hK hA hP hD hS (c_X4_copies (by omega) (by omega) (by omega) (by omega)) (va_cwS 4 hts gX4_undo_X4_copies rfl rfl rfl (by decide +kernel) ⟨Nat.le_of_ble_eq_true rfl, Nat.le_of_ble_eq_true rfl⟩) [2, 1] [0, 3, 4, 5] [0, 5, 4, 1, 2, 3] ([(h 0, .inr (4, [.ref (h 1), .ref (h 2), .int (nI (k - 1)), .ref (h 3), .ref (h 4), .ref (h 5), .int typed, .int ati])), (h 3, .inl (cI, 667, .inl bef)), (h 4, .inl (cI, 667, .inl tri)), (h 5, .inl (cI, 80, .inl tex))]) rfl rfl (fun _ => rfl) (by decide) (by decide) rfl hl.1 rfl (Nat.le_of_ble_eq_true rfl) ⟨Nat.zero_le _, Nat.zero_le _⟩ dX4_undo_37 (fun _ H locs hw_1 hP hD hS => ?_)
    try dsimp only at hw_1 hP hD
    have hP := vc_arr (g := (unN now past k)) (wsN := MW h cI (unN now past k) past (nI (k - 1)) bef tri tex typed ati) 1 rfl (fun j hj => by unfold unN; rw [if_neg c4, pk_cpy_in (by omega) (by omega)]; unfold hsl; congr 1; omega) rfl hP
    have hD := vc_arrD (g := (unN now past k)) (wsN := MW h cI (unN now past k) past (nI (k - 1)) bef tri tex typed ati) 1 rfl rfl hD
    refine lv_aload_n hx hb dX4_undo_40 rfl (lv_at hl 0 rfl) ?_
    refine va_get (D := D) (ci := 4) (v := .int (nI (k - 1))) (C := RX4) (T := TX4) (N := 8) hx hb hts hI4 hown hK.1 hP 0 rfl rfl 2 (by decide) lk29 (fun _ h9 => h9) rfl dX4_undo_41 ?_
    exact RETN _ _ (nI (k - 1)) () _ _ dX4_undo_44 (rfl) (by unfold unA; rw [if_neg c4]) hP hD hS
  · skip
    replace c4 : k = 0 := by rw [show (0 : Int32) = nI 0 from rfl, nI_eq (by omega) (by omega)] at c4; exact c4
    refine lv_bipush (v := (-2)) hx hb dX4_undo_7 (by decide) ?_
    have e1 : unN now past k = now := if_pos c4
    have hP : va_P D vwCl (MW h cI (unN now past k) past (nI (k - 1)) bef tri tex typed ati) s0.heap := by rw [e1, show k - 1 = k by omega]; exact hP
    have hD : va_D A0 (MW h cI (unN now past k) past (nI (k - 1)) bef tri tex typed ati) := by rw [e1, show k - 1 = k by omega]; exact hD
    exact RETN _ _ (-2) () _ _ dX4_undo_9 (rfl) (by unfold unA; rw [if_pos c4]) hP hD hS
set_option maxHeartbeats 4000000 in
set_option maxRecDepth 100000 in
theorem c_X4_append {l : Launch} {D : va_G} {cI cG cC cR : ClassId} {h : Nat → Nat} {now past bef tri tex : Nat → Int32} {pasts ati : Int32} {tl : Nat} (htl : tl ≤ 80) {v : Int32} : CtI l yX4_append wsX4_append { frames := 1, cells := 0, slots := 0, locals := 22 } D (TY cI cG cC cR) [.ref (h 0), .int v] (MW h cI now past pasts bef tri tex (nI tl) ati) (fun (_ : Unit) => MW h cI now past pasts bef tri (apT tex tl v) (nI (apL tl v)) ati) (fun (r : Int32) (_ : Unit) => r = apA tl v) := by
  refine CtI.of (cc := cX4_append) (maxL := 2) (ty := .int) (by decide) rfl (Nat.le_of_ble_eq_true rfl) ?_
  intro P0 e0 s0 m0 a0 b0 t0 c0 A0 Q0 ls F hK hP hD hA RETN hl
  obtain ⟨hx, hb, hml, hown, hts⟩ := id F
  have hS : va_S A0 s0.heap s0.heap [] := va_S.rf
  have hl : lv_has ls 2 [(0, .ref (h 0)), (1, .int v)] := hl
  have lk102 := hts (.fieldLink RX4 102 "SlotMapsModel" "typed" "I") (by decide +kernel)
  have lk22 := hts (.fieldLink RX4 22 "SlotMapsModel" "text" "[I") (by decide +kernel)
  have hI4 : ∀ w ∈ u_ws RX4 TX4 8, w ∈ wsX4_append := by decide +kernel
  refine lv_iload_n hx hb dX4_append_0 rfl (lv_at hl 1 rfl) ?_
  refine lv_iconst (v := (nI 1)) hx hb dX4_append_1 (by decide) ?_
  refine lv_sipush (v := (nI 255)) hx hb dX4_append_2 (by decide) ?_
  refine cl_S0 (As := [.int v, .int (nI 1), .int (nI 255)]) (rest := []) F hK hA hP hD hS (c_X4_in) (va_cwS 3 hts gX4_append_X4_in rfl rfl rfl (by decide +kernel) ⟨Nat.le_of_ble_eq_true rfl, Nat.le_of_ble_eq_true rfl⟩) rfl hl.1 rfl (Nat.le_of_ble_eq_true rfl) ⟨Nat.zero_le _, Nat.zero_le _⟩ dX4_append_5 (fun r_1 H locs hw_2 hP hS => ?_)
  try dsimp only at hw_2
  obtain rfl : r_1 = (bI (inB v (nI 1) (nI 255))) := hw_2
  refine lv_if_ne (tgt := 13) hx hb dX4_append_8 (by decide) (fun c8 => ?_) (fun c8 => ?_)
  · skip
    replace c8 : ¬ (bI (inB v (nI 1) (nI 255))) = nI 0 := c8
    refine lv_aload_n hx hb dX4_append_13 rfl (lv_at hl 0 rfl) ?_
    refine va_get (D := D) (ci := 4) (v := .int (nI tl)) (C := RX4) (T := TX4) (N := 8) hx hb hts hI4 hown hK.1 hP 0 rfl rfl 6 (by decide) lk102 (fun _ h9 => h9) rfl dX4_append_14 ?_
    refine lv_bipush (v := (nI 80)) hx hb dX4_append_17 (by decide) ?_
    refine lv_icmp_ne (tgt := 25) hx hb dX4_append_19 (by decide) (fun c19 => ?_) (fun c19 => ?_)
    · skip
      replace c19 : ¬ tl = 80 := by rw [nI_eq (by omega) (by omega)] at c19; exact c19
      refine lv_aload_n hx hb dX4_append_25 rfl (lv_at hl 0 rfl) ?_
      refine va_get (D := D) (ci := 4) (v := .ref (h 5)) (C := RX4) (T := TX4) (N := 8) hx hb hts hI4 hown hK.1 hP 0 rfl rfl 5 (by decide) lk22 (fun _ h9 => h9) rfl dX4_append_26 ?_
      refine lv_aload_n hx hb dX4_append_29 rfl (lv_at hl 0 rfl) ?_
      refine va_get (D := D) (ci := 4) (v := .int (nI tl)) (C := RX4) (T := TX4) (N := 8) hx hb hts hI4 hown hK.1 hP 0 rfl rfl 6 (by decide) lk102 (fun _ h9 => h9) rfl dX4_append_30 ?_
      refine lv_iload_n hx hb dX4_append_33 rfl (lv_at hl 1 rfl) ?_
      refine n_iast hx hb hK hP hD hS 5 0 rfl rfl (by decide) (by omega) dX4_append_34 (wsN := MW h cI now past pasts bef tri (upd tex tl v) (nI tl) ati) rfl (fun H locs hP hD hS => ?_)
      refine lv_aload_n hx hb dX4_append_35 rfl (lv_at hl 0 rfl) ?_
      refine lv_dup hx hb dX4_append_36 rfl ?_
      refine va_get (D := D) (ci := 4) (v := .int (nI tl)) (C := RX4) (T := TX4) (N := 8) hx hb hts hI4 hown hK.1 hP 0 rfl rfl 6 (by decide) lk102 (fun _ h9 => h9) rfl dX4_append_37 ?_
      refine lv_iconst (v := (nI 1)) hx hb dX4_append_40 (by decide) ?_
      refine lv_iadd hx hb dX4_append_41 ?_
      refine n_as (x' := nI (tl + 1)) (nI_add _ _) ?_
      refine va_put (D := D) (ci := 4) (v := .int (nI (tl + 1))) (ty := .int) (C := RX4) (T := TX4) (N := 8) hx hb hts hI4 tyX4 tyX4_ok nmX4 hown hK.1 hP hD hS 0 rfl rfl 6 (by decide) lk102 (fun _ h9 => h9) rfl (by decide +kernel) rfl rfl (Nat.le_of_ble_eq_true rfl) dX4_append_42 (fun H locs hP hD hS => ?_)
      have hP : va_P D vwCl (MW h cI now past pasts bef tri (upd tex tl v) (nI (tl + 1)) ati) H := hP
      have hD : va_D A0 (MW h cI now past pasts bef tri (upd tex tl v) (nI (tl + 1)) ati) := hD
      refine lv_aload_n hx hb dX4_append_45 rfl (lv_at hl 0 rfl) ?_
      refine va_get (D := D) (ci := 4) (v := .int (nI (tl + 1))) (C := RX4) (T := TX4) (N := 8) hx hb hts hI4 hown hK.1 hP 0 rfl rfl 6 (by decide) lk102 (fun _ h9 => h9) rfl dX4_append_46 ?_
      have e1 : apT tex tl v = upd tex tl v := if_pos ⟨bI_ct c8, c19⟩
      have e2 : apL tl v = tl + 1 := if_pos ⟨bI_ct c8, c19⟩
      have hP : va_P D vwCl (MW h cI now past pasts bef tri (apT tex tl v) (nI (apL tl v)) ati) H := by rw [e1, e2]; exact hP
      have hD : va_D A0 (MW h cI now past pasts bef tri (apT tex tl v) (nI (apL tl v)) ati) := by rw [e1, e2]; exact hD
      exact RETN _ _ (nI (tl + 1)) () _ _ dX4_append_49 (rfl) (by unfold apA; rw [bI_ct c8, if_pos rfl, if_neg c19]) hP hD hS
    · skip
      replace c19 : tl = 80 := by rw [nI_eq (by omega) (by omega)] at c19; exact c19
      refine lv_bipush (v := (-3)) hx hb dX4_append_22 (by decide) ?_
      have e1 : apT tex tl v = tex := if_neg (fun q => q.2 c19)
      have e2 : apL tl v = tl := if_neg (fun q => q.2 c19)
      have hP : va_P D vwCl (MW h cI now past pasts bef tri (apT tex tl v) (nI (apL tl v)) ati) H := by rw [e1, e2]; exact hP
      have hD : va_D A0 (MW h cI now past pasts bef tri (apT tex tl v) (nI (apL tl v)) ati) := by rw [e1, e2]; exact hD
      exact RETN _ _ (-3) () _ _ dX4_append_24 (rfl) (by unfold apA; rw [bI_ct c8, c19]; rfl) hP hD hS
  · skip
    replace c8 : (bI (inB v (nI 1) (nI 255))) = nI 0 := c8
    refine lv_iconst (v := (-1)) hx hb dX4_append_11 (by decide) ?_
    have e1 : apT tex tl v = tex := if_neg (fun q => by rw [bI_cf c8] at q; exact absurd q.1 (by decide))
    have e2 : apL tl v = tl := if_neg (fun q => by rw [bI_cf c8] at q; exact absurd q.1 (by decide))
    have hP : va_P D vwCl (MW h cI now past pasts bef tri (apT tex tl v) (nI (apL tl v)) ati) H := by rw [e1, e2]; exact hP
    have hD : va_D A0 (MW h cI now past pasts bef tri (apT tex tl v) (nI (apL tl v)) ati) := by rw [e1, e2]; exact hD
    exact RETN _ _ (-1) () _ _ dX4_append_12 (rfl) (by unfold apA; rw [bI_cf c8]; rfl) hP hD hS
set_option maxHeartbeats 4000000 in
set_option maxRecDepth 100000 in
theorem c_X4_clearText {l : Launch} {D : va_G} {cI cG cC cR : ClassId} {h : Nat → Nat} {now past bef tri tex : Nat → Int32} {pasts ati : Int32} {tl : Nat} (htl : tl ≤ 80) : CtI l yX4_clearText wsX4_clearText { frames := 0, cells := 0, slots := 0, locals := 0 } D (TY cI cG cC cR) [.ref (h 0)] (MW h cI now past pasts bef tri tex (nI tl) ati) (fun (_ : Unit) => MW h cI now past pasts bef tri tex (nI 0) ati) (fun (r : Int32) (_ : Unit) => r = nI tl) := by
  refine CtI.of (cc := cX4_clearText) (maxL := 2) (ty := .int) (by decide) rfl (Nat.le_of_ble_eq_true rfl) ?_
  intro P0 e0 s0 m0 a0 b0 t0 c0 A0 Q0 ls F hK hP hD hA RETN hl
  obtain ⟨hx, hb, hml, hown, hts⟩ := id F
  have hS : va_S A0 s0.heap s0.heap [] := va_S.rf
  have hl : lv_has ls 2 [(0, .ref (h 0))] := hl
  have lk102 := hts (.fieldLink RX4 102 "SlotMapsModel" "typed" "I") (by decide +kernel)
  have hI4 : ∀ w ∈ u_ws RX4 TX4 8, w ∈ wsX4_clearText := by decide +kernel
  refine lv_aload_n hx hb dX4_clearText_0 rfl (lv_at hl 0 rfl) ?_
  refine va_get (D := D) (ci := 4) (v := .int (nI tl)) (C := RX4) (T := TX4) (N := 8) hx hb hts hI4 hown hK.1 hP 0 rfl rfl 6 (by decide) lk102 (fun _ h9 => h9) rfl dX4_clearText_1 ?_
  refine lv_istore_n (lv' := [(1, .int (nI tl)), (0, .ref (h 0))]) hx hb dX4_clearText_4 rfl hl (by decide) rfl (fun ls hl => ?_)
  refine lv_aload_n hx hb dX4_clearText_5 rfl (lv_at hl 1 rfl) ?_
  refine lv_iconst (v := (nI 0)) hx hb dX4_clearText_6 (by decide) ?_
  refine va_put (D := D) (ci := 4) (v := .int (nI 0)) (ty := .int) (C := RX4) (T := TX4) (N := 8) hx hb hts hI4 tyX4 tyX4_ok nmX4 hown hK.1 hP hD hS 0 rfl rfl 6 (by decide) lk102 (fun _ h9 => h9) rfl (by decide +kernel) rfl rfl (Nat.le_of_ble_eq_true rfl) dX4_clearText_7 (fun H locs hP hD hS => ?_)
  have hP : va_P D vwCl (MW h cI now past pasts bef tri tex (nI 0) ati) H := hP
  have hD : va_D A0 (MW h cI now past pasts bef tri tex (nI 0) ati) := hD
  refine lv_iload_n hx hb dX4_clearText_10 rfl (lv_at hl 0 rfl) ?_
  exact RETN _ _ (nI tl) () _ _ dX4_clearText_11 (rfl) (rfl) hP hD hS
