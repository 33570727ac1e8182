/-! the reference's looks and programs -/
theorem sw_in {v : Int32} {lo hi : Nat} (h : hi < 2 ^ 31) : (v.toInt < lo ∨ (hi : Int) < v.toInt) ∨ ∃ j, lo ≤ j ∧ j ≤ hi ∧ v = nI j := by
  by_cases h1 : v.toInt < lo
  · exact Or.inl (Or.inl h1)
  · by_cases h2 : (hi : Int) < v.toInt
    · exact Or.inl (Or.inr h2)
    · right
      obtain ⟨j, hj, rfl⟩ := nI_of (x := v) (by rw [Int32.lt_iff_toInt_lt, Int32.toInt_zero]; omega)
      rw [nI_toInt hj] at h1 h2
      exact ⟨j, by omega, by omega, rfl⟩
theorem inB_out {v : Int32} {lo hi : Nat} (h2 : lo < 2 ^ 31) (h3 : hi < 2 ^ 31) (h : v.toInt < lo ∨ (hi : Int) < v.toInt) : inB v (nI lo) (nI hi) = false := by
  unfold inB
  rw [Bool.and_eq_false_iff, decide_eq_false_iff_not, decide_eq_false_iff_not, Int32.le_iff_toInt_le, Int32.le_iff_toInt_le, nI_toInt h2, nI_toInt h3]
  omega
/-- the bits are 0 or 1 -/
def Bits (f : Nat → Int32) : Prop := ∀ w, w < 10 → f (640 + w) = nI 0 ∨ f (640 + w) = nI 1
theorem bit_add {x : Int32} {n : Nat} (h : x = nI 0 ∨ x = nI 1) : nI n + x = nI (n + (if x = nI 1 then 1 else 0)) := by
  rcases h with h | h
  · rw [h, if_neg (by decide), nI_add]
  · rw [h, if_pos rfl, nI_add]
theorem rt_01 (f : Nat → Int32) (w : Nat) : rt f w = nI 0 ∨ rt f w = nI 1 := by
  unfold rt bI
  split
  · exact Or.inr rfl
  · exact Or.inl rfl
def biN (f : Nat → Int32) (n : Nat) : Nat := fb_ct (fun w => decide (f (640 + w) = nI 1)) n
def fuN (f : Nat → Int32) (n : Nat) : Nat := fb_ct (fun w => decide (rt f w = nI 1)) n
theorem ct_s (p : Nat → Prop) [DecidablePred p] (n : Nat) : fb_ct (fun w => decide (p w)) n + (if p n then 1 else 0) = fb_ct (fun w => decide (p w)) (n + 1) := by
  rw [fb_ct_succ]
  by_cases h : p n <;> simp [h]
/-- runs of free slots: how many, and the longest -/
def rsg (f : Nat → Int32) : Nat → Nat → Nat → Nat → Nat → Nat × Nat
  | 0, _, _, n, m => (n, m)
  | j + 1, s, r, n, m => rsg f j (s + 1) (if f s = nI 0 then r + 1 else 0) (n + (if (if f s = nI 0 then r + 1 else 0) = 1 then 1 else 0)) (if m < (if f s = nI 0 then r + 1 else 0) then (if f s = nI 0 then r + 1 else 0) else m)
theorem rsg_s {f : Nat → Int32} {s r n m r' n' m' : Nat} (h : s < 320) (hr : r' = (if f s = nI 0 then r + 1 else 0)) (hn : n' = n + (if r' = 1 then 1 else 0)) (hm : m' = (if m < r' then r' else m)) : rsg f (320 - s) s r n m = rsg f (320 - (s + 1)) (s + 1) r' n' m' := by
  rw [show 320 - s = (320 - (s + 1)) + 1 by omega, rsg, ← hr, ← hn, ← hm]
theorem rsg_e {f : Nat → Int32} {s r n m : Nat} (h : 320 ≤ s) : rsg f (320 - s) s r n m = (n, m) := by rw [show 320 - s = 0 by omega]; rfl
def blN (f : Nat → Int32) (n : Nat) : Nat := fb_ct (fun b => isB f (nI b)) n
/-- what count answers -/
def ctN (f : Nat → Int32) (k tl : Nat) : Nat → Int32
  | 0 => nI (tot f (nI 0))
  | 1 => nI (tot f (nI 1))
  | 2 => nI (tot f (nI 2))
  | 3 => nI (tot f (nI 3))
  | 4 => nI (blN f 8)
  | 5 => f 666
  | 6 => nI (biN f 10)
  | 7 => nI (fuN f 10)
  | 8 => nI (rsg f 320 0 0 0 0).1
  | 9 => nI (rsg f 320 0 0 0 0).2
  | 10 => nI k
  | 11 => nI tl
  | _ => -1
def ctA (f : Nat → Int32) (k tl : Nat) (v : Int32) : Int32 := if inB v (nI 0) (nI 11) = true then ctN f k tl v.toNatClampNeg else -1
theorem ctA_n {f : Nat → Int32} {k tl : Nat} {v : Int32} (h : inB v (nI 0) (nI 11) = false) : ctA f k tl v = -1 := by unfold ctA; rw [h]; rfl
theorem ctA_j {f : Nat → Int32} {k tl j : Nat} (h : j ≤ 11) : ctA f k tl (nI j) = ctN f k tl j := by
  unfold ctA
  rw [inB_of (by omega) (Nat.zero_le _) h, nI_clamp (by omega)]
  rfl
def slA (f : Nat → Int32) (a b : Int32) : Int32 := if (inB a (nI 0) (nI 319) && inB b (nI 0) (nI 1)) = true then (if b = nI 0 then f a.toNatClampNeg else if f (320 + a.toNatClampNeg) = nI 0 then -9 else f (320 + a.toNatClampNeg) - nI 1) else -1
theorem slA_n {f : Nat → Int32} {a b : Int32} (h : inB a (nI 0) (nI 319) = false ∨ inB b (nI 0) (nI 1) = false) : slA f a b = -1 := by
  unfold slA
  rcases h with h | h <;> simp [h]
theorem slA_j {f : Nat → Int32} {a b : Nat} (h : a ≤ 319) (h2 : b ≤ 1) : slA f (nI a) (nI b) = (if b = 0 then f a else if f (320 + a) = nI 0 then -9 else f (320 + a) - nI 1) := by
  unfold slA
  rw [inB_of (by omega) (Nat.zero_le _) h, inB_of (by omega) (Nat.zero_le _) h2, nI_clamp (by omega)]
  rcases (show b = 0 ∨ b = 1 by omega) with rfl | rfl <;> rfl
def wdN (f : Nat → Int32) (w j : Nat) : Int32 := if j < 4 then nI (cw f w (nI j)) else if j = 4 then f (640 + w) else if j = 5 then rt f w else oI (fi f w)
def wdA (f : Nat → Int32) (a b : Int32) : Int32 := if (inB a (nI 0) (nI 9) && inB b (nI 0) (nI 6)) = true then wdN f a.toNatClampNeg b.toNatClampNeg else -1
theorem wdA_n {f : Nat → Int32} {a b : Int32} (h : inB a (nI 0) (nI 9) = false ∨ inB b (nI 0) (nI 6) = false) : wdA f a b = -1 := by
  unfold wdA
  rcases h with h | h <;> simp [h]
theorem wdA_j {f : Nat → Int32} {a b : Nat} (h : a ≤ 9) (h2 : b ≤ 6) : wdA f (nI a) (nI b) = wdN f a b := by
  unfold wdA
  rw [inB_of (by omega) (Nat.zero_le _) h, inB_of (by omega) (Nat.zero_le _) h2, nI_clamp (by omega), nI_clamp (by omega)]
  rfl
def bkN (f : Nat → Int32) (p n j : Nat) : Nat := fb_ct (fun i => decide (f (p + i) = (if j = 2 then nI 1 else nI 3))) n
theorem bkN_le (f : Nat → Int32) (p n j : Nat) : bkN f p n j ≤ n := fb_ct_le _ _
def bkA (f : Nat → Int32) (a b : Int32) : Int32 := if (inB a (nI 0) (nI 7) && inB b (nI 0) (nI 3)) = true then (if isB f a = true then (if b = nI 0 then f (650 + 2 * a.toNatClampNeg) else if b = nI 1 then f (650 + 2 * a.toNatClampNeg + 1) else nI (bkN f (f (650 + 2 * a.toNatClampNeg)).toNatClampNeg (f (650 + 2 * a.toNatClampNeg + 1)).toNatClampNeg b.toNatClampNeg)) else -9) else -1
theorem bkA_n {f : Nat → Int32} {a b : Int32} (h : inB a (nI 0) (nI 7) = false ∨ inB b (nI 0) (nI 3) = false) : bkA f a b = -1 := by
  unfold bkA
  rcases h with h | h <;> simp [h]
theorem bkA_9 {f : Nat → Int32} {a b : Nat} (h : a ≤ 7) (h2 : b ≤ 3) (h3 : isB f (nI a) = false) : bkA f (nI a) (nI b) = -9 := by
  unfold bkA
  rw [inB_of (by omega) (Nat.zero_le _) h, inB_of (by omega) (Nat.zero_le _) h2, h3]
  rfl
theorem bkA_j {f : Nat → Int32} {a b p z : Nat} (h : a ≤ 7) (h2 : b ≤ 3) (h3 : isB f (nI a) = true) (hp : f (650 + 2 * a) = nI p) (hz : f (650 + 2 * a + 1) = nI z) (hpz : p + z ≤ 320) : bkA f (nI a) (nI b) = (if b = 0 then nI p else if b = 1 then nI z else nI (bkN f p z b)) := by
  unfold bkA
  rw [inB_of (by omega) (Nat.zero_le _) h, inB_of (by omega) (Nat.zero_le _) h2, h3, nI_clamp (by omega), hp, hz, nI_clamp (by omega), nI_clamp (by omega), nI_clamp (by omega)]
  rcases (show b = 0 ∨ b = 1 ∨ b = 2 ∨ b = 3 by omega) with rfl | rfl | rfl | rfl <;> rfl
/-- a bit is not right -/
def wr (f : Nat → Int32) (w : Nat) : Bool := decide (¬ f (640 + w) = rt f w)
def wr1 (f : Nat → Int32) (w : Nat) : Bool := decide (¬ f (640 + w) = rt f w ∧ f (640 + w) = nI 1)
def adA (f : Nat → Int32) (v : Int32) : Int32 := if inB v (nI 0) (nI 2) = true then (if v = nI 0 then nI (fb_ct (wr f) 10) else if v = nI 1 then oI (ls1 (wr f) 10 0) else nI (fb_ct (wr1 f) 10)) else -1
theorem adA_n {f : Nat → Int32} {v : Int32} (h : inB v (nI 0) (nI 2) = false) : adA f v = -1 := by unfold adA; rw [h]; rfl
theorem adA_j {f : Nat → Int32} {j : Nat} (h : j ≤ 2) : adA f (nI j) = (if j = 0 then nI (fb_ct (wr f) 10) else if j = 1 then oI (ls1 (wr f) 10 0) else nI (fb_ct (wr1 f) 10)) := by
  unfold adA
  rw [inB_of (by omega) (Nat.zero_le _) h]
  rcases (show j = 0 ∨ j = 1 ∨ j = 2 by omega) with rfl | rfl | rfl <;> rfl
/-- one less than n -/
def dn (n : Nat) : Int32 := nI n - nI 1
theorem dn_s (n : Nat) : dn (n + 1) = nI n := by unfold dn; rw [pk_sub (by omega)]; rfl
theorem dn_d (n : Nat) : nI n + Int32.ofInt (-1) = dn n := by unfold dn; rw [Int32.sub_eq_add_neg]; rfl
theorem dn_0 {n : Nat} (hn : n ≤ 10) (h : ¬ dn n < 0) : ∃ w, n = w + 1 := by
  cases n with
  | zero => exact absurd (by decide) h
  | succ w => exact ⟨w, rfl⟩
theorem dn_1 {n : Nat} (hn : n ≤ 10) (h : dn n < 0) : n = 0 := by
  cases n with
  | zero => rfl
  | succ w =>
    rw [dn_s] at h
    exact absurd h (nI_pos (by omega))
def nxA (f : Nat → Int32) (v : Int32) : Int32 := if inB v (nI 0) (nI 2) = true then (match (tk f).1 with
  | none => -9
  | some s => if v = nI 0 then nI s else if v = nI 1 then (tk f).2 666 - f 666 else if tot (tk f).2 (nI 2) < tot f (nI 2) then nI 1 else nI 0) else -1
theorem nxA_n {f : Nat → Int32} {v : Int32} (h : inB v (nI 0) (nI 2) = false) : nxA f v = -1 := by unfold nxA; rw [h]; rfl
theorem nxA_0 {f : Nat → Int32} {j : Nat} (h : j ≤ 2) (ho : (tk f).1 = none) : nxA f (nI j) = -9 := by
  unfold nxA
  rw [inB_of (by omega) (Nat.zero_le _) h, ho]
  rfl
theorem nxA_j {f : Nat → Int32} {j s : Nat} (h : j ≤ 2) (ho : (tk f).1 = some s) : nxA f (nI j) = (if j = 0 then nI s else if j = 1 then (tk f).2 666 - f 666 else if tot (tk f).2 (nI 2) < tot f (nI 2) then nI 1 else nI 0) := by
  unfold nxA
  rw [inB_of (by omega) (Nat.zero_le _) h, ho]
  rcases (show j = 0 ∨ j = 1 ∨ j = 2 by omega) with rfl | rfl | rfl <;> rfl
def raA (f : Nat → Int32) (v : Int32) : Int32 := if inB v (nI 1) (nI 64) = true then oI (rn f v.toNatClampNeg 320 0 0) else -1
def pfA (f : Nat → Int32) (v : Int32) : Int32 := if szB v = true then oI (pl f v.toNatClampNeg) else -1
/-- how many slots the takes come to, word by word -/
def rc (f : Nat → Int32) (w : Nat) : Nat := if f (640 + w) = nI 0 ∨ 0 < cw f w (nI 2) then cw f w (nI 0) + cw f w (nI 2) else 0
def reach (f : Nat → Int32) : Nat := fb_sm (rc f) 10
theorem rc_cong {f g : Nat → Int32} {w : Nat} (h : ∀ i, i < 32 → g (32 * w + i) = f (32 * w + i)) (h2 : g (640 + w) = f (640 + w)) : rc g w = rc f w := by
  unfold rc
  rw [h2, cw_cong h, cw_cong h]
theorem reach_one {f g : Nat → Int32} {w : Nat} (hw : w < 10) (h : ∀ x, x < 10 → x ≠ w → rc g x = rc f x) : reach g + rc f w = reach f + rc g w := by
  have h1 := fb_sm_upd (rc f) (rc g w) hw
  have h2 : fb_sm (fun k => if k = w then rc g w else rc f k) 10 = reach g := fb_sm_cong (fun x hx => by
    by_cases e : x = w
    · rw [if_pos e, e]
    · rw [if_neg e, h x hx e])
  rw [h2] at h1
  exact h1
theorem cw_none {f : Nat → Int32} {w : Nat} (h : fi f w = none) : cw f w (nI 0) = 0 := by
  unfold cw
  rw [fb_ct_zero]
  intro i hi
  exact ls1_none h (32 * w + i) (by omega) (by omega)
theorem cw_set {f : Nat → Int32} {s : Nat} {k x : Int32} : cw (upd f s x) (s / 32) k + (if f s = k then 1 else 0) = cw f (s / 32) k + (if x = k then 1 else 0) := by
  have h := fb_ct_upd (fun i => decide (f (32 * (s / 32) + i) = k)) (decide (x = k)) (i := s % 32) (n := 32) (Nat.mod_lt _ (by decide))
  rw [show 32 * (s / 32) + s % 32 = s by omega] at h
  have e : cw (upd f s x) (s / 32) k = fb_ct (fun j => if j = s % 32 then decide (x = k) else decide (f (32 * (s / 32) + j) = k)) 32 := fb_ct_cong (fun i hi => by
    by_cases q : i = s % 32
    · rw [if_pos q, q, show 32 * (s / 32) + s % 32 = s by omega, upd_s]
    · rw [if_neg q, upd_n _ _ (by omega)])
  rw [e]
  simp only [decide_eq_true_eq] at h
  exact h
theorem lkP_n (f : Nat → Int32) {j : Nat} (h : j ≠ 666) : lkP f j = f j := upd_n _ _ h
theorem reach_full {f : Nat → Int32} {w : Nat} (hw : w < 10) (c : f (640 + w) = nI 0) (ho : fi (lkP f) w = none) : reach (upd (lkP f) (640 + w) (nI 1)) = reach f := by
  have hs : ∀ j, j < 640 → upd (lkP f) (640 + w) (nI 1) j = f j := fun j hj => by rw [upd_n _ _ (by omega), lkP_n _ (by omega)]
  have hz : cw f w (nI 0) = 0 := (cw_cong (fun i hi => (lkP_n f (by omega)).symm)).trans (cw_none ho)
  have hx : ∀ x, x < 10 → x ≠ w → rc (upd (lkP f) (640 + w) (nI 1)) x = rc f x := fun x hx e => rc_cong (fun i hi => hs _ (by omega)) (by rw [upd_n _ _ (by omega), lkP_n _ (by omega)])
  have h1 := reach_one hw hx
  have h2 : rc (upd (lkP f) (640 + w) (nI 1)) w = rc f w := by
    unfold rc
    rw [upd_s, cw_cong (k := nI 0) (fun i hi => hs _ (by omega)), cw_cong (k := nI 2) (fun i hi => hs _ (by omega)), hz, if_pos (Or.inl c)]
    by_cases e : 0 < cw f w (nI 2)
    · rw [if_pos (Or.inr e)]
    · rw [if_neg (fun q => q.elim (by decide) e)]
      omega
  omega
theorem rc_rt {f : Nat → Int32} {w : Nat} (h : f (640 + w) = rt f w) : rc f w = cw f w (nI 0) + cw f w (nI 2) := by
  unfold rc
  by_cases e : cw f w (nI 0) = 0
  · by_cases e2 : 0 < cw f w (nI 2)
    · rw [if_pos (Or.inr e2)]
    · rw [if_neg (fun q => q.elim (fun q => by
        rw [h, rt, bI, if_pos (decide_eq_true e)] at q
        exact absurd q (by decide)) e2)]
      omega
  · rw [if_pos (Or.inl (by rw [h, rt, bI, if_neg (by simp [e])]; rfl))]
theorem rt_bc1 {f : Nat → Int32} {s : Nat} {x : Int32} (hs : s < 320) : bc1 f s x (640 + s / 32) = rt (bc1 f s x) (s / 32) := by
  unfold bc1
  rw [upd_s]
  exact rt_cong (fun i hi => (upd_n _ _ (by omega)).symm)
theorem reach_take {f : Nat → Int32} {w s : Nat} (hw : w < 10) (c : f (640 + w) = nI 0) (ho : fi (lkP f) w = some s) : reach (bc1 (lkP f) s (nI 1)) + 1 = reach f := by
  obtain ⟨h1, h2, h3⟩ := fi_lt ho
  obtain rfl : w = s / 32 := by omega
  have hl : ∀ j, j < 666 → lkP f j = f j := fun j hj => lkP_n _ (by omega)
  have hx : ∀ x, x < 10 → x ≠ s / 32 → rc (bc1 (lkP f) s (nI 1)) x = rc f x := fun x hx e => rc_cong (fun i hi => by
    unfold bc1
    rw [upd_n _ _ (by omega), upd_n _ _ (by omega), hl _ (by omega)]) (by unfold bc1; rw [upd_n _ _ (by omega), upd_n _ _ (by omega), hl _ (by omega)])
  have h4 := reach_one hw hx
  have h5 := rc_rt (rt_bc1 (f := lkP f) (x := nI 1) (show s < 320 by omega))
  have e : ∀ k, cw (bc1 (lkP f) s (nI 1)) (s / 32) k = cw (upd (lkP f) s (nI 1)) (s / 32) k := fun k => cw_cong (fun i hi => by unfold bc1; rw [upd_n _ _ (by omega)])
  have h6 := cw_set (f := lkP f) (s := s) (k := nI 0) (x := nI 1)
  have h7 := cw_set (f := lkP f) (s := s) (k := nI 2) (x := nI 1)
  rw [h3, if_pos rfl, if_neg (by decide)] at h6
  rw [h3, if_neg (by decide), if_neg (by decide)] at h7
  have h8 : rc f (s / 32) = cw f (s / 32) (nI 0) + cw f (s / 32) (nI 2) := if_pos (Or.inl c)
  have h9 : ∀ k, cw (lkP f) (s / 32) k = cw f (s / 32) k := fun k => cw_cong (fun i hi => hl _ (by omega))
  rw [h9] at h6 h7
  rw [e, e] at h5
  omega
theorem gt_some : ∀ {n w : Nat} {f : Nat → Int32} {s : Nat}, w + n = 10 → (gt n w f).1 = some s → reach (gt n w f).2 + 1 = reach f
  | 0, _, _, _, _, h => by cases h
  | n + 1, w, f, s, hw, h => by
    rw [gt] at h ⊢
    by_cases c : f (640 + w) = nI 0
    · rw [if_pos c] at h ⊢
      cases ho : fi (lkP f) w with
      | none =>
        rw [ho] at h
        rw [← reach_full (by omega) c ho]
        exact gt_some (by omega) h
      | some s2 => exact reach_take (by omega) c ho
    · rw [if_neg c] at h ⊢
      exact gt_some (by omega) h
theorem gt_none : ∀ {n w : Nat} {f : Nat → Int32}, w + n = 10 → (gt n w f).1 = none → reach (gt n w f).2 = reach f ∧ (∀ j, j < 640 → (gt n w f).2 j = f j) ∧ (∀ x, x < 10 → w ≤ x → ¬ (gt n w f).2 (640 + x) = nI 0) ∧ (∀ x, x < w → (gt n w f).2 (640 + x) = f (640 + x))
  | 0, w, f, hw, _ => ⟨rfl, fun _ _ => rfl, fun x h1 h2 => absurd h2 (by omega), fun _ _ => rfl⟩
  | n + 1, w, f, hw, h => by
    rw [gt] at h ⊢
    by_cases c : f (640 + w) = nI 0
    · rw [if_pos c] at h ⊢
      cases ho : fi (lkP f) w with
      | none =>
        rw [ho] at h
        obtain ⟨h1, h2, h3, h4⟩ := gt_none (by omega) h
        refine ⟨h1.trans (reach_full (by omega) c ho), fun j hj => ?_, fun x hx hwx => ?_, fun x hx => ?_⟩
        · show (gt n (w + 1) _).2 j = _
          rw [h2 j hj, upd_n _ _ (by omega), lkP_n _ (by omega)]
        · by_cases e : x = w
          · show ¬ (gt n (w + 1) _).2 (640 + x) = _
            rw [h4 x (by omega), e, upd_s]
            decide
          · exact h3 x hx (by omega)
        · show (gt n (w + 1) _).2 (640 + x) = _
          rw [h4 x (by omega), upd_n _ _ (by omega), lkP_n _ (by omega)]
      | some s2 =>
        rw [ho] at h
        cases h
    · rw [if_neg c] at h ⊢
      obtain ⟨h1, h2, h3, h4⟩ := gt_none (by omega) h
      refine ⟨h1, h2, fun x hx hwx => ?_, fun x hx => h4 x (by omega)⟩
      by_cases e : x = w
      · rw [h4 x (by omega), e]
        exact c
      · exact h3 x hx (by omega)
/-- behind a clearing of all, with no word hidden by its bit but by right, as many can be taken as before -/
theorem clF_slot {f : Nat → Int32} {j : Nat} (h : j < 320) (hz : lzc f 10 ≤ 10) : clF f 10 j = if f j = nI 2 then nI 0 else f j := by
  unfold clF
  rw [bec_slot h, clP_in (by omega)]
  by_cases e : f j = nI 2
  · have h1 := cw_pos (f := f) rfl e
    have h2 : lzc f (j / 32) < 10 := by
      have h3 : lzc f (j / 32 + 1) ≤ lzc f 10 := fb_ct_mono _ (by omega)
      rw [lzc_succ, if_pos h1] at h3
      omega
    simp [e, selB, h1, h2]
  · simp [e]
theorem lzc_le (f : Nat → Int32) (w : Nat) : lzc f w ≤ w := fb_ct_le _ _
theorem clF_cw {f : Nat → Int32} {w : Nat} (h : w < 10) : cw (clF f 10) w (nI 2) = 0 ∧ cw (clF f 10) w (nI 0) = cw f w (nI 0) + cw f w (nI 2) := by
  have hs : ∀ i, i < 32 → clF f 10 (32 * w + i) = if f (32 * w + i) = nI 2 then nI 0 else f (32 * w + i) := fun i hi => clF_slot (by omega) (lzc_le f 10)
  constructor
  · unfold cw
    rw [fb_ct_zero]
    intro i hi
    rw [hs i hi]
    by_cases e : f (32 * w + i) = nI 2
    · rw [if_pos e]; decide
    · rw [if_neg e]; exact decide_eq_false e
  · unfold cw
    rw [← fb_ct_or (fun i hi => by
      rw [decide_eq_true_iff, decide_eq_true_iff]
      intro q
      rw [q.1] at q
      exact absurd q.2 (by decide))]
    refine fb_ct_cong (fun i hi => ?_)
    rw [hs i hi]
    by_cases e : f (32 * w + i) = nI 2
    · rw [if_pos e, e]; decide
    · rw [if_neg e]; simp [e]
theorem clF_bit {f : Nat → Int32} {w : Nat} (h : w < 10) : clF f 10 (640 + w) = if 0 < cw f w (nI 2) then rt (clF f 10) w else f (640 + w) := by
  unfold clF
  rw [bec_bit h]
  have e : anyB (clP f 10 10 0) w = decide (0 < cw f w (nI 2)) := by
    rw [Bool.eq_iff_iff, anyB_iff, decide_eq_true_iff]
    constructor
    · rintro ⟨i, hi, hp⟩
      rw [clP_in (by omega), Bool.and_eq_true, decide_eq_true_iff] at hp
      exact cw_pos (by omega) hp.2
    · intro hp
      obtain ⟨i, hi, hp2⟩ := fb_ct_pos.mp hp
      have h2 : lzc f w < 10 := Nat.lt_of_le_of_lt (lzc_le f w) h
      refine ⟨i, hi, ?_⟩
      rw [clP_in (by omega), show (32 * w + i) / 32 = w by omega]
      simp [selB, hp, h2, of_decide_eq_true hp2]
  rw [e]
  by_cases q : 0 < cw f w (nI 2)
  · rw [if_pos (decide_eq_true q), if_pos q]
    exact rt_cong (fun i hi => by rw [chg_slot (by omega), bec_slot (by omega)])
  · rw [if_neg (by simp [q]), if_neg q]
theorem reach_clear {f : Nat → Int32} (h : ∀ x, x < 10 → ¬ f (640 + x) = nI 0) : reach (clF f 10) = reach f := by
  refine fb_sm_cong (fun w hw => ?_)
  obtain ⟨h1, h2⟩ := clF_cw (f := f) hw
  by_cases e : 0 < cw f w (nI 2)
  · rw [rc_rt (by rw [clF_bit hw, if_pos e]), h1, h2]
    unfold rc
    rw [if_pos (Or.inr e)]
    rfl
  · unfold rc
    rw [h1, clF_bit hw, if_neg e, if_neg (fun q => q.elim (h w hw) (by omega)), if_neg (fun q => q.elim (h w hw) e)]
theorem reach_0 {f : Nat → Int32} (h : ∀ x, x < 10 → ¬ f (640 + x) = nI 0) (h2 : ∀ x, x < 10 → cw f x (nI 2) = 0) : reach f = 0 := by
  have := fb_sm_bound (f := rc f) (c := 0) (n := 10) (fun w hw => by
    unfold rc
    rw [if_neg (fun q => q.elim (h w hw) (by rw [h2 w hw]; omega))]
    omega)
  unfold reach
  omega
theorem clN_0 {f : Nat → Int32} (h : ¬ 0 < clN f 10) : ∀ x, x < 10 → cw f x (nI 2) = 0 := fun x hx => by
  have h1 := fb_sm_zero (f := fun x => if selB f 10 x = true then cw f x (nI 2) else 0) (n := 10) (by unfold clN at h; omega) x hx
  have h2 : (if selB f 10 x = true then cw f x (nI 2) else 0) = 0 := h1
  by_cases e : 0 < cw f x (nI 2)
  · rw [if_pos (by unfold selB; simp [e]; exact Nat.lt_of_le_of_lt (lzc_le f x) hx)] at h2
    exact h2
  · omega
theorem tk_some {f : Nat → Int32} {s : Nat} (h : (tk f).1 = some s) : reach (tk f).2 + 1 = reach f := by
  cases h1 : (gt 10 0 f).1 with
  | some s2 =>
    rw [tk_1 h1]
    exact gt_some rfl h1
  | none =>
    obtain ⟨h3, h4, h5, -⟩ := gt_none (n := 10) (w := 0) rfl h1
    by_cases h2 : 0 < clN (gt 10 0 f).2 10
    · rw [tk_2 h1 h2] at h ⊢
      rw [gt_some rfl h, reach_clear (fun x hx => h5 x hx (Nat.zero_le _)), h3]
    · rw [tk_3 h1 h2] at h
      cases h
theorem tk_none {f : Nat → Int32} (h : (tk f).1 = none) : reach f = 0 := by
  cases h1 : (gt 10 0 f).1 with
  | some s2 =>
    rw [tk_1 h1] at h
    cases h
  | none =>
    obtain ⟨h3, h4, h5, -⟩ := gt_none (n := 10) (w := 0) rfl h1
    by_cases h2 : 0 < clN (gt 10 0 f).2 10
    · rw [tk_2 h1 h2] at h
      obtain ⟨g3, g4, g5, -⟩ := gt_none (n := 10) (w := 0) rfl h
      have e1 := reach_clear (f := (gt 10 0 f).2) (fun x hx => h5 x hx (Nat.zero_le _))
      rw [← h3, ← e1, ← g3]
      exact reach_0 (fun x hx => g5 x hx (Nat.zero_le _)) (fun x hx => (cw_cong (fun i hi => g4 _ (by omega))).trans (clF_cw (f := (gt 10 0 f).2) hx).1)
    · rw [← h3]
      exact reach_0 (fun x hx => h5 x hx (Nat.zero_le _)) (clN_0 h2)
theorem reach_le (f : Nat → Int32) : reach f ≤ 640 := by
  refine Nat.le_trans (fb_sm_bound (c := 64) (fun w _ => ?_)) (by decide)
  have h1 := cw_le f w (nI 0)
  have h2 := cw_le f w (nI 2)
  unfold rc
  split <;> omega
set_option maxHeartbeats 4000000 in
set_option maxRecDepth 100000 in
theorem c_X4_bits {l : Launch} {D : va_G} {cI cG cC cR : ClassId} {h : Nat → Nat} {now past bef tri tex : Nat → Int32} {pasts typed ati : Int32} (hbt : Bits now) : CtI l yX4_bits wsX4_bits { frames := 0, cells := 0, slots := 0, locals := 0 } D (TY cI cG cC cR) [.ref (h 0)] (MW h cI now past pasts bef tri tex typed ati) (fun (_ : Unit) => MW h cI now past pasts bef tri tex typed ati) (fun (r : Int32) (_ : Unit) => r = nI (biN now 10)) := by
  refine CtI.of (cc := cX4_bits) (maxL := 3) (ty := .int) (by decide) rfl (Nat.le_of_ble_eq_true rfl) ?_
  intro P0 e0 s0 m0 a0 b0 t0 c0 A0 Q0 ls F hK hP hD hA RETN hl
  obtain ⟨hx, hb, hml, hown, hts⟩ := id F
  have hS : va_S A0 s0.heap s0.heap [] := va_S.rf
  have hl : lv_has ls 3 [(0, .ref (h 0))] := hl
  have lk7 := hts (.fieldLink RX4 7 "SlotMapsModel" "now" "[I") (by decide +kernel)
  have hI4 : ∀ w ∈ u_ws RX4 TX4 8, w ∈ wsX4_bits := by decide +kernel
  refine lv_iconst (v := (nI 0)) hx hb dX4_bits_0 (by decide) ?_
  refine lv_istore_n (lv' := [(1, .int (nI 0)), (0, .ref (h 0))]) hx hb dX4_bits_1 rfl hl (by decide) rfl (fun ls hl => ?_)
  refine lv_iconst (v := (nI 0)) hx hb dX4_bits_2 (by decide) ?_
  refine lv_istore_n (lv' := [(2, .int (nI 0)), (1, .int (nI 0)), (0, .ref (h 0))]) hx hb dX4_bits_3 rfl hl (by decide) rfl (fun ls hl => ?_)
  have LP4 : ∀ (nn : Nat) (w : Nat) (n : Nat) (H : Heap) (locs : List Loc) (ls : Array Slot), w ≤ 10 → n = biN now w → 10 - w < nn → va_P D vwCl (MW h cI now past pasts bef tri tex typed ati) H → va_D A0 (MW h cI now past pasts bef tri tex typed ati) → va_S A0 s0.heap H locs → lv_has ls 3 [(2, .int (nI w)), (1, .int (nI n)), (0, .ref (h 0))] → W P0 l e0 { frames := 0, cells := 0, slots := 0, locals := 0 } s0 m0 a0 b0 t0 c0 H locs 0 0 Q0 (F0 m0 4 ls []) := by
    intro nn
    induction nn with
    | zero => intro w n H locs ls hw hn hmu; exact absurd hmu (Nat.not_lt_zero _)
    | succ nn ih4 =>
      intro w n H locs ls hw hn hmu4 hP hD hS hl
      refine lv_iload_n hx hb dX4_bits_4 rfl (lv_at hl 0 rfl) ?_
      refine lv_bipush (v := (nI 10)) hx hb dX4_bits_5 (by decide) ?_
      refine lv_icmp_ge (tgt := 29) hx hb dX4_bits_7 (by decide) (fun c7 => ?_) (fun c7 => ?_)
      · skip
        replace c7 : 10 ≤ w := by rw [nI_leI (by omega) (by omega)] at c7; exact c7
        refine lv_iload_n hx hb dX4_bits_29 rfl (lv_at hl 1 rfl) ?_
        exact RETN _ _ (nI n) () _ _ dX4_bits_30 (rfl) (by rw [hn, show w = 10 by omega]) hP hD hS
      · skip
        replace c7 : ¬ (10 ≤ w) := by rw [nI_leI (by omega) (by omega)] at c7; exact c7
        refine lv_iload_n hx hb dX4_bits_10 rfl (lv_at hl 1 rfl) ?_
        refine lv_aload_n hx hb dX4_bits_11 rfl (lv_at hl 2 rfl) ?_
        refine va_get (D := D) (ci := 4) (v := .ref (h 1)) (C := RX4) (T := TX4) (N := 8) hx hb hts hI4 hown hK.1 hP 0 rfl rfl 0 (by decide) lk7 (fun _ h9 => h9) rfl dX4_bits_12 ?_
        refine lv_sipush (v := (nI 640)) hx hb dX4_bits_15 (by decide) ?_
        refine lv_iload_n hx hb dX4_bits_18 rfl (lv_at hl 0 rfl) ?_
        refine lv_iadd hx hb dX4_bits_19 ?_
        refine n_as (x' := nI (640 + w)) (nI_add _ _) ?_
        refine n_iald hx hb hK hP 1 0 rfl rfl (by decide) (by omega) dX4_bits_20 ?_
        refine lv_iadd hx hb dX4_bits_21 ?_
        refine n_as (x' := (nI (n + (if now (640 + w) = nI 1 then 1 else 0)))) (bit_add (hbt w (by omega))) ?_
        refine lv_istore_n (lv' := [(1, .int (nI (n + (if now (640 + w) = nI 1 then 1 else 0)))), (2, .int (nI w)), (0, .ref (h 0))]) hx hb dX4_bits_22 rfl hl (by decide) rfl (fun ls hl => ?_)
        refine lv_iinc (v := (nI (w + 1))) (lv' := [(2, .int (nI (w + 1))), (1, .int (nI (n + (if now (640 + w) = nI 1 then 1 else 0)))), (0, .ref (h 0))]) hx hb dX4_bits_23 hl (k := 1) rfl (n_inc1 _) (by decide) rfl (fun ls hl => ?_)
        refine lv_goto (tgt := 4) hx hb dX4_bits_26 (by decide) ?_
        exact ih4 (w + 1) (n + (if now (640 + w) = nI 1 then 1 else 0)) _ _ _ (by omega) (by rw [hn]; exact ct_s (fun w => now (640 + w) = nI 1) w) (by omega) hP hD hS (lv_sub hl [0, 1, 2] rfl)
  exact LP4 _ 0 0 _ _ _ (by omega) (rfl) (Nat.lt_succ_self _) hP hD hS (lv_sub hl [0, 1, 2] rfl)
set_option maxHeartbeats 4000000 in
set_option maxRecDepth 100000 in
theorem c_X4_full {l : Launch} {D : va_G} {cI cG cC cR : ClassId} {h : Nat → Nat} {now past bef tri tex : Nat → Int32} {pasts typed ati : Int32} : CtI l yX4_full wsX4_full { frames := 2, cells := 0, slots := 0, locals := 45 } D (TY cI cG cC cR) [.ref (h 0)] (MW h cI now past pasts bef tri tex typed ati) (fun (_ : Unit) => MW h cI now past pasts bef tri tex typed ati) (fun (r : Int32) (_ : Unit) => r = nI (fuN now 10)) := by
  refine CtI.of (cc := cX4_full) (maxL := 3) (ty := .int) (by decide) rfl (Nat.le_of_ble_eq_true rfl) ?_
  intro P0 e0 s0 m0 a0 b0 t0 c0 A0 Q0 ls F hK hP hD hA RETN hl
  obtain ⟨hx, hb, hml, hown, hts⟩ := id F
  have hS : va_S A0 s0.heap s0.heap [] := va_S.rf
  have hl : lv_has ls 3 [(0, .ref (h 0))] := hl
  refine lv_iconst (v := (nI 0)) hx hb dX4_full_0 (by decide) ?_
  refine lv_istore_n (lv' := [(1, .int (nI 0)), (0, .ref (h 0))]) hx hb dX4_full_1 rfl hl (by decide) rfl (fun ls hl => ?_)
  refine lv_iconst (v := (nI 0)) hx hb dX4_full_2 (by decide) ?_
  refine lv_istore_n (lv' := [(2, .int (nI 0)), (1, .int (nI 0)), (0, .ref (h 0))]) hx hb dX4_full_3 rfl hl (by decide) rfl (fun ls hl => ?_)
  have LP4 : ∀ (nn : Nat) (w : Nat) (n : Nat) (H : Heap) (locs : List Loc) (ls : Array Slot), w ≤ 10 → n = fuN now w → 10 - w < nn → va_P D vwCl (MW h cI now past pasts bef tri tex typed ati) H → va_D A0 (MW h cI now past pasts bef tri tex typed ati) → va_S A0 s0.heap H locs → lv_has ls 3 [(2, .int (nI w)), (1, .int (nI n)), (0, .ref (h 0))] → W P0 l e0 { frames := 2, cells := 0, slots := 0, locals := 45 } s0 m0 a0 b0 t0 c0 H locs 0 0 Q0 (F0 m0 4 ls []) := by
    intro nn
    induction nn with
    | zero => intro w n H locs ls hw hn hmu; exact absurd hmu (Nat.not_lt_zero _)
    | succ nn ih4 =>
      intro w n H locs ls hw hn hmu4 hP hD hS hl
      refine lv_iload_n hx hb dX4_full_4 rfl (lv_at hl 0 rfl) ?_
      refine lv_bipush (v := (nI 10)) hx hb dX4_full_5 (by decide) ?_
      refine lv_icmp_ge (tgt := 24) hx hb dX4_full_7 (by decide) (fun c7 => ?_) (fun c7 => ?_)
      · skip
        replace c7 : 10 ≤ w := by rw [nI_leI (by omega) (by omega)] at c7; exact c7
        refine lv_iload_n hx hb dX4_full_24 rfl (lv_at hl 1 rfl) ?_
        exact RETN _ _ (nI n) () _ _ dX4_full_25 (rfl) (by rw [hn, show w = 10 by omega]) hP hD hS
      · skip
        replace c7 : ¬ (10 ≤ w) := by rw [nI_leI (by omega) (by omega)] at c7; exact c7
        refine lv_iload_n hx hb dX4_full_10 rfl (lv_at hl 1 rfl) ?_
        refine lv_aload_n hx hb dX4_full_11 rfl (lv_at hl 2 rfl) ?_
        refine lv_iload_n hx hb dX4_full_12 rfl (lv_at hl 0 rfl) ?_
        refine cl_Vi (b := (h 0)) (As := [.int (nI w)]) (rest := [.int (nI n)]) (wc := MW h cI now past pasts bef tri tex typed ati) (wsN := fun (_ : Unit) => MW h cI now past pasts bef tri tex typed ati) F hK hA hP hD hS (c_X4_right (by omega)) (cwV 1 hts gX4_full_X4_right rfl rfl rfl (by decide +kernel) ⟨Nat.le_of_ble_eq_true rfl, Nat.le_of_ble_eq_true rfl⟩) [0, 1, 2, 3, 4, 5] [] [0, 1, 2, 3, 4, 5] ([]) rfl rfl (fun _ => rfl) (by decide) (by decide) 0 rfl rfl rfl hl.1 rfl (Nat.le_of_ble_eq_true rfl) ⟨Nat.zero_le _, Nat.zero_le _⟩ dX4_full_13 (fun r_2 _ H locs hw_1 hP hD hS => ?_)
        try dsimp only at hw_1 hP hD
        obtain rfl : r_2 = (rt now w) := hw_1
        refine lv_iadd hx hb dX4_full_16 ?_
        refine n_as (x' := (nI (n + (if rt now w = nI 1 then 1 else 0)))) (bit_add (rt_01 now w)) ?_
        refine lv_istore_n (lv' := [(1, .int (nI (n + (if rt now w = nI 1 then 1 else 0)))), (2, .int (nI w)), (0, .ref (h 0))]) hx hb dX4_full_17 rfl hl (by decide) rfl (fun ls hl => ?_)
        refine lv_iinc (v := (nI (w + 1))) (lv' := [(2, .int (nI (w + 1))), (1, .int (nI (n + (if rt now w = nI 1 then 1 else 0)))), (0, .ref (h 0))]) hx hb dX4_full_18 hl (k := 1) rfl (n_inc1 _) (by decide) rfl (fun ls hl => ?_)
        refine lv_goto (tgt := 4) hx hb dX4_full_21 (by decide) ?_
        exact ih4 (w + 1) (n + (if rt now w = nI 1 then 1 else 0)) _ _ _ (by omega) (by rw [hn]; exact ct_s (fun w => rt now w = nI 1) w) (by omega) hP hD hS (lv_sub hl [0, 1, 2] rfl)
  exact LP4 _ 0 0 _ _ _ (by omega) (rfl) (Nat.lt_succ_self _) hP hD hS (lv_sub hl [0, 1, 2] rfl)
set_option maxHeartbeats 4000000 in
set_option maxRecDepth 100000 in
theorem c_X4_runs {l : Launch} {D : va_G} {cI cG cC cR : ClassId} {h : Nat → Nat} {now past bef tri tex : Nat → Int32} {pasts typed ati : Int32} {lg : Nat} (hlg : lg ≤ 1) : CtI l yX4_runs wsX4_runs { frames := 0, cells := 0, slots := 0, locals := 0 } D (TY cI cG cC cR) [.ref (h 0), .int (nI lg)] (MW h cI now past pasts bef tri tex typed ati) (fun (_ : Unit) => MW h cI now past pasts bef tri tex typed ati) (fun (r : Int32) (_ : Unit) => r = nI (if lg = 0 then (rsg now 320 0 0 0 0).1 else (rsg now 320 0 0 0 0).2)) := by
  refine CtI.of (cc := cX4_runs) (maxL := 6) (ty := .int) (by decide) rfl (Nat.le_of_ble_eq_true rfl) ?_
  intro P0 e0 s0 m0 a0 b0 t0 c0 A0 Q0 ls F hK hP hD hA RETN hl
  obtain ⟨hx, hb, hml, hown, hts⟩ := id F
  have hS : va_S A0 s0.heap s0.heap [] := va_S.rf
  have hl : lv_has ls 6 [(0, .ref (h 0)), (1, .int (nI lg))] := hl
  have lk7 := hts (.fieldLink RX4 7 "SlotMapsModel" "now" "[I") (by decide +kernel)
  have hI4 : ∀ w ∈ u_ws RX4 TX4 8, w ∈ wsX4_runs := by decide +kernel
  refine lv_iconst (v := (nI 0)) hx hb dX4_runs_0 (by decide) ?_
  refine lv_istore_n (lv' := [(2, .int (nI 0)), (0, .ref (h 0)), (1, .int (nI lg))]) hx hb dX4_runs_1 rfl hl (by decide) rfl (fun ls hl => ?_)
  refine lv_iconst (v := (nI 0)) hx hb dX4_runs_2 (by decide) ?_
  refine lv_istore_n (lv' := [(3, .int (nI 0)), (2, .int (nI 0)), (0, .ref (h 0)), (1, .int (nI lg))]) hx hb dX4_runs_3 rfl hl (by decide) rfl (fun ls hl => ?_)
  refine lv_iconst (v := (nI 0)) hx hb dX4_runs_4 (by decide) ?_
  refine lv_istore (lv' := [(4, .int (nI 0)), (3, .int (nI 0)), (2, .int (nI 0)), (0, .ref (h 0)), (1, .int (nI lg))]) hx hb dX4_runs_5 hl (by decide) rfl (fun ls hl => ?_)
  refine lv_iconst (v := (nI 0)) hx hb dX4_runs_7 (by decide) ?_
  refine lv_istore (lv' := [(5, .int (nI 0)), (4, .int (nI 0)), (3, .int (nI 0)), (2, .int (nI 0)), (0, .ref (h 0)), (1, .int (nI lg))]) hx hb dX4_runs_8 hl (by decide) rfl (fun ls hl => ?_)
  have LP10 : ∀ (nn : Nat) (sl : Nat) (r : Nat) (n : Nat) (m : Nat) (H : Heap) (locs : List Loc) (ls : Array Slot), sl ≤ 320 → r ≤ sl ∧ n ≤ sl ∧ m ≤ sl → rsg now 320 0 0 0 0 = rsg now (320 - sl) sl r n m → 320 - sl < nn → va_P D vwCl (MW h cI now past pasts bef tri tex typed ati) H → va_D A0 (MW h cI now past pasts bef tri tex typed ati) → va_S A0 s0.heap H locs → lv_has ls 6 [(5, .int (nI sl)), (4, .int (nI r)), (3, .int (nI m)), (2, .int (nI n)), (0, .ref (h 0)), (1, .int (nI lg))] → W P0 l e0 { frames := 0, cells := 0, slots := 0, locals := 0 } s0 m0 a0 b0 t0 c0 H locs 0 0 Q0 (F0 m0 10 ls []) := by
    intro nn
    induction nn with
    | zero => intro sl r n m H locs ls hs hr ha hmu; exact absurd hmu (Nat.not_lt_zero _)
    | succ nn ih10 =>
      intro sl r n m H locs ls hs hr ha hmu10 hP hD hS hl
      refine lv_iload hx hb dX4_runs_10 (lv_at hl 0 rfl) ?_
      refine lv_sipush (v := (nI 320)) hx hb dX4_runs_12 (by decide) ?_
      refine lv_icmp_ge (tgt := 71) hx hb dX4_runs_15 (by decide) (fun c15 => ?_) (fun c15 => ?_)
      · skip
        replace c15 : 320 ≤ sl := by rw [nI_leI (by omega) (by omega)] at c15; exact c15
        refine lv_iload_n hx hb dX4_runs_71 rfl (lv_at hl 5 rfl) ?_
        refine lv_if_eq (tgt := 79) hx hb dX4_runs_72 (by decide) (fun c72 => ?_) (fun c72 => ?_)
        · skip
          replace c72 : lg = 0 := by rw [show (0 : Int32) = nI 0 from rfl, nI_eq (by omega) (by omega)] at c72; exact c72
          refine lv_iload_n hx hb dX4_runs_79 rfl (lv_at hl 3 rfl) ?_
          exact RETN _ _ (nI n) () _ _ dX4_runs_80 (rfl) (by rw [ha, rsg_e (by omega)]; first | rw [if_pos c72] | rw [if_neg c72]) hP hD hS
        · skip
          replace c72 : ¬ (lg = 0) := by rw [show (0 : Int32) = nI 0 from rfl, nI_eq (by omega) (by omega)] at c72; exact c72
          refine lv_iload_n hx hb dX4_runs_75 rfl (lv_at hl 2 rfl) ?_
          refine lv_goto (tgt := 80) hx hb dX4_runs_76 (by decide) ?_
          exact RETN _ _ (nI m) () _ _ dX4_runs_80 (rfl) (by rw [ha, rsg_e (by omega)]; first | rw [if_pos c72] | rw [if_neg c72]) hP hD hS
      · skip
        replace c15 : ¬ (320 ≤ sl) := by rw [nI_leI (by omega) (by omega)] at c15; exact c15
        refine lv_aload_n hx hb dX4_runs_18 rfl (lv_at hl 4 rfl) ?_
        refine va_get (D := D) (ci := 4) (v := .ref (h 1)) (C := RX4) (T := TX4) (N := 8) hx hb hts hI4 hown hK.1 hP 0 rfl rfl 0 (by decide) lk7 (fun _ h9 => h9) rfl dX4_runs_19 ?_
        refine lv_iload hx hb dX4_runs_22 (lv_at hl 0 rfl) ?_
        refine n_iald hx hb hK hP 1 0 rfl rfl (by decide) (by omega) dX4_runs_24 ?_
        refine lv_if_ne (tgt := 35) hx hb dX4_runs_25 (by decide) (fun c25 => ?_) (fun c25 => ?_)
        · skip
          replace c25 : ¬ (now sl) = nI 0 := c25
          refine lv_iconst (v := (nI 0)) hx hb dX4_runs_35 (by decide) ?_
          refine lv_istore (lv' := [(4, .int (nI 0)), (5, .int (nI sl)), (3, .int (nI m)), (2, .int (nI n)), (0, .ref (h 0)), (1, .int (nI lg))]) hx hb dX4_runs_36 hl (by decide) rfl (fun ls hl => ?_)
          refine lv_iload_n hx hb dX4_runs_38 rfl (lv_at hl 3 rfl) ?_
          refine lv_iload hx hb dX4_runs_39 (lv_at hl 0 rfl) ?_
          refine lv_iconst (v := (nI 1)) hx hb dX4_runs_41 (by decide) ?_
          refine lv_icmp_ne (tgt := 49) hx hb dX4_runs_42 (by decide) (fun c42 => ?_) (fun c42 => ?_)
          · skip
            refine lv_iconst (v := (nI 0)) hx hb dX4_runs_49 (by decide) ?_
            refine lv_iadd hx hb dX4_runs_50 ?_
            refine n_as (x' := nI (n + 0)) (nI_add _ _) ?_
            refine lv_istore_n (lv' := [(2, .int (nI (n + 0))), (4, .int (nI 0)), (5, .int (nI sl)), (3, .int (nI m)), (0, .ref (h 0)), (1, .int (nI lg))]) hx hb dX4_runs_51 rfl hl (by decide) rfl (fun ls hl => ?_)
            refine lv_iload hx hb dX4_runs_52 (lv_at hl 1 rfl) ?_
            refine lv_iload_n hx hb dX4_runs_54 rfl (lv_at hl 3 rfl) ?_
            refine lv_icmp_le (tgt := 63) hx hb dX4_runs_55 (by decide) (fun c55 => ?_) (fun c55 => ?_)
            · skip
              replace c55 : 0 ≤ m := by rw [nI_leI (by omega) (by omega)] at c55; exact c55
              refine lv_iload_n hx hb dX4_runs_63 rfl (lv_at hl 3 rfl) ?_
              refine lv_istore_n (lv' := [(3, .int (nI m)), (2, .int (nI (n + 0))), (4, .int (nI 0)), (5, .int (nI sl)), (0, .ref (h 0)), (1, .int (nI lg))]) hx hb dX4_runs_64 rfl hl (by decide) rfl (fun ls hl => ?_)
              refine lv_iinc (v := (nI (sl + 1))) (lv' := [(5, .int (nI (sl + 1))), (3, .int (nI m)), (2, .int (nI (n + 0))), (4, .int (nI 0)), (0, .ref (h 0)), (1, .int (nI lg))]) hx hb dX4_runs_65 hl (k := 3) rfl (n_inc1 _) (by decide) rfl (fun ls hl => ?_)
              refine lv_goto (tgt := 10) hx hb dX4_runs_68 (by decide) ?_
              exact ih10 (sl + 1) 0 (n + 0) m _ _ _ (by omega) (by omega) (by rw [ha]; exact rsg_s (by omega) (by first | rw [if_pos c25] | rw [if_neg c25]) (by first | rw [if_pos c42] | rw [if_neg c42] | rfl) (by first | rw [if_neg (by omega)] | rw [if_pos (by omega)])) (by omega) hP hD hS (lv_sub hl [0, 3, 1, 2, 4, 5] rfl)
            · skip
              replace c55 : ¬ (0 ≤ m) := by rw [nI_leI (by omega) (by omega)] at c55; exact c55
              exfalso
              omega
          · skip
            exfalso
            exact absurd c42 (by decide)
        · skip
          replace c25 : (now sl) = nI 0 := c25
          refine lv_iload hx hb dX4_runs_28 (lv_at hl 1 rfl) ?_
          refine lv_iconst (v := (nI 1)) hx hb dX4_runs_30 (by decide) ?_
          refine lv_iadd hx hb dX4_runs_31 ?_
          refine n_as (x' := nI (r + 1)) (nI_add _ _) ?_
          refine lv_goto (tgt := 36) hx hb dX4_runs_32 (by decide) ?_
          refine lv_istore (lv' := [(4, .int (nI (r + 1))), (5, .int (nI sl)), (3, .int (nI m)), (2, .int (nI n)), (0, .ref (h 0)), (1, .int (nI lg))]) hx hb dX4_runs_36 hl (by decide) rfl (fun ls hl => ?_)
          refine lv_iload_n hx hb dX4_runs_38 rfl (lv_at hl 3 rfl) ?_
          refine lv_iload hx hb dX4_runs_39 (lv_at hl 0 rfl) ?_
          refine lv_iconst (v := (nI 1)) hx hb dX4_runs_41 (by decide) ?_
          refine lv_icmp_ne (tgt := 49) hx hb dX4_runs_42 (by decide) (fun c42 => ?_) (fun c42 => ?_)
          · skip
            replace c42 : ¬ (r + 1) = 1 := by rw [nI_eq (by omega) (by omega)] at c42; exact c42
            refine lv_iconst (v := (nI 0)) hx hb dX4_runs_49 (by decide) ?_
            refine lv_iadd hx hb dX4_runs_50 ?_
            refine n_as (x' := nI (n + 0)) (nI_add _ _) ?_
            refine lv_istore_n (lv' := [(2, .int (nI (n + 0))), (4, .int (nI (r + 1))), (5, .int (nI sl)), (3, .int (nI m)), (0, .ref (h 0)), (1, .int (nI lg))]) hx hb dX4_runs_51 rfl hl (by decide) rfl (fun ls hl => ?_)
            refine lv_iload hx hb dX4_runs_52 (lv_at hl 1 rfl) ?_
            refine lv_iload_n hx hb dX4_runs_54 rfl (lv_at hl 3 rfl) ?_
            refine lv_icmp_le (tgt := 63) hx hb dX4_runs_55 (by decide) (fun c55 => ?_) (fun c55 => ?_)
            · skip
              replace c55 : (r + 1) ≤ m := by rw [nI_leI (by omega) (by omega)] at c55; exact c55
              refine lv_iload_n hx hb dX4_runs_63 rfl (lv_at hl 3 rfl) ?_
              refine lv_istore_n (lv' := [(3, .int (nI m)), (2, .int (nI (n + 0))), (4, .int (nI (r + 1))), (5, .int (nI sl)), (0, .ref (h 0)), (1, .int (nI lg))]) hx hb dX4_runs_64 rfl hl (by decide) rfl (fun ls hl => ?_)
              refine lv_iinc (v := (nI (sl + 1))) (lv' := [(5, .int (nI (sl + 1))), (3, .int (nI m)), (2, .int (nI (n + 0))), (4, .int (nI (r + 1))), (0, .ref (h 0)), (1, .int (nI lg))]) hx hb dX4_runs_65 hl (k := 3) rfl (n_inc1 _) (by decide) rfl (fun ls hl => ?_)
              refine lv_goto (tgt := 10) hx hb dX4_runs_68 (by decide) ?_
              exact ih10 (sl + 1) (r + 1) (n + 0) m _ _ _ (by omega) (by omega) (by rw [ha]; exact rsg_s (by omega) (by first | rw [if_pos c25] | rw [if_neg c25]) (by first | rw [if_pos c42] | rw [if_neg c42] | rfl) (by first | rw [if_neg (by omega)] | rw [if_pos (by omega)])) (by omega) hP hD hS (lv_sub hl [0, 3, 1, 2, 4, 5] rfl)
            · skip
              replace c55 : ¬ ((r + 1) ≤ m) := by rw [nI_leI (by omega) (by omega)] at c55; exact c55
              refine lv_iload hx hb dX4_runs_58 (lv_at hl 1 rfl) ?_
              refine lv_goto (tgt := 64) hx hb dX4_runs_60 (by decide) ?_
              refine lv_istore_n (lv' := [(3, .int (nI (r + 1))), (2, .int (nI (n + 0))), (4, .int (nI (r + 1))), (5, .int (nI sl)), (0, .ref (h 0)), (1, .int (nI lg))]) hx hb dX4_runs_64 rfl hl (by decide) rfl (fun ls hl => ?_)
              refine lv_iinc (v := (nI (sl + 1))) (lv' := [(5, .int (nI (sl + 1))), (3, .int (nI (r + 1))), (2, .int (nI (n + 0))), (4, .int (nI (r + 1))), (0, .ref (h 0)), (1, .int (nI lg))]) hx hb dX4_runs_65 hl (k := 3) rfl (n_inc1 _) (by decide) rfl (fun ls hl => ?_)
              refine lv_goto (tgt := 10) hx hb dX4_runs_68 (by decide) ?_
              exact ih10 (sl + 1) (r + 1) (n + 0) (r + 1) _ _ _ (by omega) (by omega) (by rw [ha]; exact rsg_s (by omega) (by first | rw [if_pos c25] | rw [if_neg c25]) (by first | rw [if_pos c42] | rw [if_neg c42] | rfl) (by first | rw [if_neg (by omega)] | rw [if_pos (by omega)])) (by omega) hP hD hS (lv_sub hl [0, 3, 1, 2, 4, 5] rfl)
          · skip
            replace c42 : (r + 1) = 1 := by rw [nI_eq (by omega) (by omega)] at c42; exact c42
            refine lv_iconst (v := (nI 1)) hx hb dX4_runs_45 (by decide) ?_
            refine lv_goto (tgt := 50) hx hb dX4_runs_46 (by decide) ?_
            refine lv_iadd hx hb dX4_runs_50 ?_
            refine n_as (x' := nI (n + 1)) (nI_add _ _) ?_
            refine lv_istore_n (lv' := [(2, .int (nI (n + 1))), (4, .int (nI (r + 1))), (5, .int (nI sl)), (3, .int (nI m)), (0, .ref (h 0)), (1, .int (nI lg))]) hx hb dX4_runs_51 rfl hl (by decide) rfl (fun ls hl => ?_)
            refine lv_iload hx hb dX4_runs_52 (lv_at hl 1 rfl) ?_
            refine lv_iload_n hx hb dX4_runs_54 rfl (lv_at hl 3 rfl) ?_
            refine lv_icmp_le (tgt := 63) hx hb dX4_runs_55 (by decide) (fun c55 => ?_) (fun c55 => ?_)
            · skip
              replace c55 : (r + 1) ≤ m := by rw [nI_leI (by omega) (by omega)] at c55; exact c55
              refine lv_iload_n hx hb dX4_runs_63 rfl (lv_at hl 3 rfl) ?_
              refine lv_istore_n (lv' := [(3, .int (nI m)), (2, .int (nI (n + 1))), (4, .int (nI (r + 1))), (5, .int (nI sl)), (0, .ref (h 0)), (1, .int (nI lg))]) hx hb dX4_runs_64 rfl hl (by decide) rfl (fun ls hl => ?_)
              refine lv_iinc (v := (nI (sl + 1))) (lv' := [(5, .int (nI (sl + 1))), (3, .int (nI m)), (2, .int (nI (n + 1))), (4, .int (nI (r + 1))), (0, .ref (h 0)), (1, .int (nI lg))]) hx hb dX4_runs_65 hl (k := 3) rfl (n_inc1 _) (by decide) rfl (fun ls hl => ?_)
              refine lv_goto (tgt := 10) hx hb dX4_runs_68 (by decide) ?_
              exact ih10 (sl + 1) (r + 1) (n + 1) m _ _ _ (by omega) (by omega) (by rw [ha]; exact rsg_s (by omega) (by first | rw [if_pos c25] | rw [if_neg c25]) (by first | rw [if_pos c42] | rw [if_neg c42] | rfl) (by first | rw [if_neg (by omega)] | rw [if_pos (by omega)])) (by omega) hP hD hS (lv_sub hl [0, 3, 1, 2, 4, 5] rfl)
            · skip
              replace c55 : ¬ ((r + 1) ≤ m) := by rw [nI_leI (by omega) (by omega)] at c55; exact c55
              refine lv_iload hx hb dX4_runs_58 (lv_at hl 1 rfl) ?_
              refine lv_goto (tgt := 64) hx hb dX4_runs_60 (by decide) ?_
              refine lv_istore_n (lv' := [(3, .int (nI (r + 1))), (2, .int (nI (n + 1))), (4, .int (nI (r + 1))), (5, .int (nI sl)), (0, .ref (h 0)), (1, .int (nI lg))]) hx hb dX4_runs_64 rfl hl (by decide) rfl (fun ls hl => ?_)
              refine lv_iinc (v := (nI (sl + 1))) (lv' := [(5, .int (nI (sl + 1))), (3, .int (nI (r + 1))), (2, .int (nI (n + 1))), (4, .int (nI (r + 1))), (0, .ref (h 0)), (1, .int (nI lg))]) hx hb dX4_runs_65 hl (k := 3) rfl (n_inc1 _) (by decide) rfl (fun ls hl => ?_)
              refine lv_goto (tgt := 10) hx hb dX4_runs_68 (by decide) ?_
              exact ih10 (sl + 1) (r + 1) (n + 1) (r + 1) _ _ _ (by omega) (by omega) (by rw [ha]; exact rsg_s (by omega) (by first | rw [if_pos c25] | rw [if_neg c25]) (by first | rw [if_pos c42] | rw [if_neg c42] | rfl) (by first | rw [if_neg (by omega)] | rw [if_pos (by omega)])) (by omega) hP hD hS (lv_sub hl [0, 3, 1, 2, 4, 5] rfl)
  exact LP10 _ 0 0 0 0 _ _ _ (by omega) (by omega) (rfl) (Nat.lt_succ_self _) hP hD hS (lv_sub hl [0, 1, 2, 3, 4, 5] rfl)
set_option maxHeartbeats 4000000 in
set_option maxRecDepth 100000 in
theorem c_X4_blocks {l : Launch} {D : va_G} {cI cG cC cR : ClassId} {h : Nat → Nat} {now past bef tri tex : Nat → Int32} {pasts typed ati : Int32} : CtI l yX4_blocks wsX4_blocks { frames := 2, cells := 0, slots := 0, locals := 43 } D (TY cI cG cC cR) [.ref (h 0)] (MW h cI now past pasts bef tri tex typed ati) (fun (_ : Unit) => MW h cI now past pasts bef tri tex typed ati) (fun (r : Int32) (_ : Unit) => r = nI (blN now 8)) := by
  refine CtI.of (cc := cX4_blocks) (maxL := 3) (ty := .int) (by decide) rfl (Nat.le_of_ble_eq_true rfl) ?_
  intro P0 e0 s0 m0 a0 b0 t0 c0 A0 Q0 ls F hK hP hD hA RETN hl
  obtain ⟨hx, hb, hml, hown, hts⟩ := id F
  have hS : va_S A0 s0.heap s0.heap [] := va_S.rf
  have hl : lv_has ls 3 [(0, .ref (h 0))] := hl
  refine lv_iconst (v := (nI 0)) hx hb dX4_blocks_0 (by decide) ?_
  refine lv_istore_n (lv' := [(1, .int (nI 0)), (0, .ref (h 0))]) hx hb dX4_blocks_1 rfl hl (by decide) rfl (fun ls hl => ?_)
  refine lv_iconst (v := (nI 0)) hx hb dX4_blocks_2 (by decide) ?_
  refine lv_istore_n (lv' := [(2, .int (nI 0)), (1, .int (nI 0)), (0, .ref (h 0))]) hx hb dX4_blocks_3 rfl hl (by decide) rfl (fun ls hl => ?_)
  have LP4 : ∀ (nn : Nat) (w : Nat) (n : Nat) (H : Heap) (locs : List Loc) (ls : Array Slot), w ≤ 8 → n = blN now w → 8 - w < nn → va_P D vwCl (MW h cI now past pasts bef tri tex typed ati) H → va_D A0 (MW h cI now past pasts bef tri tex typed ati) → va_S A0 s0.heap H locs → lv_has ls 3 [(2, .int (nI w)), (1, .int (nI n)), (0, .ref (h 0))] → W P0 l e0 { frames := 2, cells := 0, slots := 0, locals := 43 } s0 m0 a0 b0 t0 c0 H locs 0 0 Q0 (F0 m0 4 ls []) := by
    intro nn
    induction nn with
    | zero => intro w n H locs ls hw hn hmu; exact absurd hmu (Nat.not_lt_zero _)
    | succ nn ih4 =>
      intro w n H locs ls hw hn hmu4 hP hD hS hl
      refine lv_iload_n hx hb dX4_blocks_4 rfl (lv_at hl 0 rfl) ?_
      refine lv_bipush (v := (nI 8)) hx hb dX4_blocks_5 (by decide) ?_
      refine lv_icmp_ge (tgt := 32) hx hb dX4_blocks_7 (by decide) (fun c7 => ?_) (fun c7 => ?_)
      · skip
        replace c7 : 8 ≤ w := by rw [nI_leI (by omega) (by omega)] at c7; exact c7
        refine lv_iload_n hx hb dX4_blocks_32 rfl (lv_at hl 1 rfl) ?_
        exact RETN _ _ (nI n) () _ _ dX4_blocks_33 (rfl) (by rw [hn, show w = 8 by omega]) hP hD hS
      · skip
        replace c7 : ¬ (8 ≤ w) := by rw [nI_leI (by omega) (by omega)] at c7; exact c7
        refine lv_iload_n hx hb dX4_blocks_10 rfl (lv_at hl 1 rfl) ?_
        refine lv_aload_n hx hb dX4_blocks_11 rfl (lv_at hl 2 rfl) ?_
        refine lv_iload_n hx hb dX4_blocks_12 rfl (lv_at hl 0 rfl) ?_
        refine cl_Vi (b := (h 0)) (As := [.int (nI w)]) (rest := [.int (nI n)]) (wc := MW h cI now past pasts bef tri tex typed ati) (wsN := fun (_ : Unit) => MW h cI now past pasts bef tri tex typed ati) F hK hA hP hD hS (c_X4_isBlock) (cwV 1 hts gX4_blocks_X4_isBlock rfl rfl rfl (by decide +kernel) ⟨Nat.le_of_ble_eq_true rfl, Nat.le_of_ble_eq_true rfl⟩) [0, 1, 2, 3, 4, 5] [] [0, 1, 2, 3, 4, 5] ([]) rfl rfl (fun _ => rfl) (by decide) (by decide) 0 rfl rfl rfl hl.1 rfl (Nat.le_of_ble_eq_true rfl) ⟨Nat.zero_le _, Nat.zero_le _⟩ dX4_blocks_13 (fun r_2 _ H locs hw_1 hP hD hS => ?_)
        try dsimp only at hw_1 hP hD
        obtain rfl : r_2 = (bI (isB now (nI w))) := hw_1
        refine lv_if_eq (tgt := 23) hx hb dX4_blocks_16 (by decide) (fun c16 => ?_) (fun c16 => ?_)
        · skip
          replace c16 : (bI (isB now (nI w))) = nI 0 := c16
          refine lv_iconst (v := (nI 0)) hx hb dX4_blocks_23 (by decide) ?_
          refine lv_iadd hx hb dX4_blocks_24 ?_
          refine n_as (x' := nI (n + 0)) (nI_add _ _) ?_
          refine lv_istore_n (lv' := [(1, .int (nI (n + 0))), (2, .int (nI w)), (0, .ref (h 0))]) hx hb dX4_blocks_25 rfl hl (by decide) rfl (fun ls hl => ?_)
          refine lv_iinc (v := (nI (w + 1))) (lv' := [(2, .int (nI (w + 1))), (1, .int (nI (n + 0))), (0, .ref (h 0))]) hx hb dX4_blocks_26 hl (k := 1) rfl (n_inc1 _) (by decide) rfl (fun ls hl => ?_)
          refine lv_goto (tgt := 4) hx hb dX4_blocks_29 (by decide) ?_
          exact ih4 (w + 1) (n + 0) _ _ _ (by omega) (by rw [hn]; unfold blN; rw [fb_ct_succ]; first | (rw [bI_cf c16]; rfl) | (rw [bI_ct c16]; rfl)) (by omega) hP hD hS (lv_sub hl [0, 1, 2] rfl)
        · skip
          replace c16 : ¬ (bI (isB now (nI w))) = nI 0 := c16
          refine lv_iconst (v := (nI 1)) hx hb dX4_blocks_19 (by decide) ?_
          refine lv_goto (tgt := 24) hx hb dX4_blocks_20 (by decide) ?_
          refine lv_iadd hx hb dX4_blocks_24 ?_
          refine n_as (x' := nI (n + 1)) (nI_add _ _) ?_
          refine lv_istore_n (lv' := [(1, .int (nI (n + 1))), (2, .int (nI w)), (0, .ref (h 0))]) hx hb dX4_blocks_25 rfl hl (by decide) rfl (fun ls hl => ?_)
          refine lv_iinc (v := (nI (w + 1))) (lv' := [(2, .int (nI (w + 1))), (1, .int (nI (n + 1))), (0, .ref (h 0))]) hx hb dX4_blocks_26 hl (k := 1) rfl (n_inc1 _) (by decide) rfl (fun ls hl => ?_)
          refine lv_goto (tgt := 4) hx hb dX4_blocks_29 (by decide) ?_
          exact ih4 (w + 1) (n + 1) _ _ _ (by omega) (by rw [hn]; unfold blN; rw [fb_ct_succ]; first | (rw [bI_cf c16]; rfl) | (rw [bI_ct c16]; rfl)) (by omega) hP hD hS (lv_sub hl [0, 1, 2] rfl)
  exact LP4 _ 0 0 _ _ _ (by omega) (rfl) (Nat.lt_succ_self _) hP hD hS (lv_sub hl [0, 1, 2] rfl)
set_option maxHeartbeats 4000000 in
set_option maxRecDepth 100000 in
theorem c_X4_count {l : Launch} {D : va_G} {cI cG cC cR : ClassId} {h : Nat → Nat} {now past bef tri tex : Nat → Int32} {ati : Int32} {k tl : Nat} (hbt : Bits now) {v : Int32} : CtI l yX4_count wsX4_count { frames := 3, cells := 0, slots := 0, locals := 67 } D (TY cI cG cC cR) [.ref (h 0), .int v] (MW h cI now past (nI k) bef tri tex (nI tl) ati) (fun (_ : Unit) => MW h cI now past (nI k) bef tri tex (nI tl) ati) (fun (r : Int32) (_ : Unit) => r = ctA now k tl v) := by
  refine CtI.of (cc := cX4_count) (maxL := 2) (ty := .int) (by decide) rfl (Nat.le_of_ble_eq_true rfl) ?_
  intro P0 e0 s0 m0 a0 b0 t0 c0 A0 Q0 ls F hK hP hD hA RETN hl
  obtain ⟨hx, hb, hml, hown, hts⟩ := id F
  have hS : va_S A0 s0.heap s0.heap [] := va_S.rf
  have hl : lv_has ls 2 [(0, .ref (h 0)), (1, .int v)] := hl
  have lk102 := hts (.fieldLink RX4 102 "SlotMapsModel" "typed" "I") (by decide +kernel)
  have lk29 := hts (.fieldLink RX4 29 "SlotMapsModel" "pasts" "I") (by decide +kernel)
  have lk7 := hts (.fieldLink RX4 7 "SlotMapsModel" "now" "[I") (by decide +kernel)
  have hI4 : ∀ w ∈ u_ws RX4 TX4 8, w ∈ wsX4_count := by decide +kernel
  refine lv_iload_n hx hb dX4_count_0 rfl (lv_at hl 1 rfl) ?_
  rcases sw_in (v := v) (lo := 0) (hi := 11) (by decide) with hsw | ⟨j, hlo_j, hhi_j, rfl⟩
  · skip
    refine lv_tableOut (tgt := 120) hx hb dX4_count_1 hsw (by decide) ?_
    refine lv_iconst (v := (-1)) hx hb dX4_count_120 (by decide) ?_
    exact RETN _ _ (-1) () _ _ dX4_count_121 (rfl) ((ctA_n (inB_out (by decide) (by decide) hsw)).symm) hP hD hS
  · skip
    rcases (show j = 0 ∨ j = 1 ∨ j = 2 ∨ j = 3 ∨ j = 4 ∨ j = 5 ∨ j = 6 ∨ j = 7 ∨ j = 8 ∨ j = 9 ∨ j = 10 ∨ j = 11 by omega) with rfl | rfl | rfl | rfl | rfl | rfl | rfl | rfl | rfl | rfl | rfl | rfl
    · skip
      refine lv_tableIn (off := 63) (tgt := 64) hx hb dX4_count_1 (by decide) (by decide) rfl (by decide) ?_
      refine lv_aload_n hx hb dX4_count_64 rfl (lv_at hl 0 rfl) ?_
      refine lv_iload_n hx hb dX4_count_65 rfl (lv_at hl 1 rfl) ?_
      refine cl_Vi (b := (h 0)) (As := [.int (nI 0)]) (rest := []) (wc := MW h cI now past (nI k) bef tri tex (nI tl) ati) (wsN := fun (_ : Unit) => MW h cI now past (nI k) bef tri tex (nI tl) ati) F hK hA hP hD hS (c_X4_inAll) (cwV 1 hts gX4_count_X4_inAll rfl rfl rfl (by decide +kernel) ⟨Nat.le_of_ble_eq_true rfl, Nat.le_of_ble_eq_true rfl⟩) [0, 1, 2, 3, 4, 5] [] [0, 1, 2, 3, 4, 5] ([]) rfl rfl (fun _ => rfl) (by decide) (by decide) 0 rfl rfl rfl hl.1 rfl (Nat.le_of_ble_eq_true rfl) ⟨Nat.zero_le _, Nat.zero_le _⟩ dX4_count_66 (fun r_2 _ H locs hw_1 hP hD hS => ?_)
      try dsimp only at hw_1 hP hD
      obtain rfl : r_2 = (nI (tot now (nI 0))) := hw_1
      exact RETN _ _ (nI (tot now (nI 0))) () _ _ dX4_count_69 (rfl) (by rw [ctA_j (by decide)]; try rfl) hP hD hS
    · skip
      refine lv_tableIn (off := 63) (tgt := 64) hx hb dX4_count_1 (by decide) (by decide) rfl (by decide) ?_
      refine lv_aload_n hx hb dX4_count_64 rfl (lv_at hl 0 rfl) ?_
      refine lv_iload_n hx hb dX4_count_65 rfl (lv_at hl 1 rfl) ?_
      refine cl_Vi (b := (h 0)) (As := [.int (nI 1)]) (rest := []) (wc := MW h cI now past (nI k) bef tri tex (nI tl) ati) (wsN := fun (_ : Unit) => MW h cI now past (nI k) bef tri tex (nI tl) ati) F hK hA hP hD hS (c_X4_inAll) (cwV 1 hts gX4_count_X4_inAll rfl rfl rfl (by decide +kernel) ⟨Nat.le_of_ble_eq_true rfl, Nat.le_of_ble_eq_true rfl⟩) [0, 1, 2, 3, 4, 5] [] [0, 1, 2, 3, 4, 5] ([]) rfl rfl (fun _ => rfl) (by decide) (by decide) 0 rfl rfl rfl hl.1 rfl (Nat.le_of_ble_eq_true rfl) ⟨Nat.zero_le _, Nat.zero_le _⟩ dX4_count_66 (fun r_4 _ H locs hw_3 hP hD hS => ?_)
      try dsimp only at hw_3 hP hD
      obtain rfl : r_4 = (nI (tot now (nI 1))) := hw_3
      exact RETN _ _ (nI (tot now (nI 1))) () _ _ dX4_count_69 (rfl) (by rw [ctA_j (by decide)]; try rfl) hP hD hS
    · skip
      refine lv_tableIn (off := 63) (tgt := 64) hx hb dX4_count_1 (by decide) (by decide) rfl (by decide) ?_
      refine lv_aload_n hx hb dX4_count_64 rfl (lv_at hl 0 rfl) ?_
      refine lv_iload_n hx hb dX4_count_65 rfl (lv_at hl 1 rfl) ?_
      refine cl_Vi (b := (h 0)) (As := [.int (nI 2)]) (rest := []) (wc := MW h cI now past (nI k) bef tri tex (nI tl) ati) (wsN := fun (_ : Unit) => MW h cI now past (nI k) bef tri tex (nI tl) ati) F hK hA hP hD hS (c_X4_inAll) (cwV 1 hts gX4_count_X4_inAll rfl rfl rfl (by decide +kernel) ⟨Nat.le_of_ble_eq_true rfl, Nat.le_of_ble_eq_true rfl⟩) [0, 1, 2, 3, 4, 5] [] [0, 1, 2, 3, 4, 5] ([]) rfl rfl (fun _ => rfl) (by decide) (by decide) 0 rfl rfl rfl hl.1 rfl (Nat.le_of_ble_eq_true rfl) ⟨Nat.zero_le _, Nat.zero_le _⟩ dX4_count_66 (fun r_6 _ H locs hw_5 hP hD hS => ?_)
      try dsimp only at hw_5 hP hD
      obtain rfl : r_6 = (nI (tot now (nI 2))) := hw_5
      exact RETN _ _ (nI (tot now (nI 2))) () _ _ dX4_count_69 (rfl) (by rw [ctA_j (by decide)]; try rfl) hP hD hS
    · skip
      refine lv_tableIn (off := 63) (tgt := 64) hx hb dX4_count_1 (by decide) (by decide) rfl (by decide) ?_
      refine lv_aload_n hx hb dX4_count_64 rfl (lv_at hl 0 rfl) ?_
      refine lv_iload_n hx hb dX4_count_65 rfl (lv_at hl 1 rfl) ?_
      refine cl_Vi (b := (h 0)) (As := [.int (nI 3)]) (rest := []) (wc := MW h cI now past (nI k) bef tri tex (nI tl) ati) (wsN := fun (_ : Unit) => MW h cI now past (nI k) bef tri tex (nI tl) ati) F hK hA hP hD hS (c_X4_inAll) (cwV 1 hts gX4_count_X4_inAll rfl rfl rfl (by decide +kernel) ⟨Nat.le_of_ble_eq_true rfl, Nat.le_of_ble_eq_true rfl⟩) [0, 1, 2, 3, 4, 5] [] [0, 1, 2, 3, 4, 5] ([]) rfl rfl (fun _ => rfl) (by decide) (by decide) 0 rfl rfl rfl hl.1 rfl (Nat.le_of_ble_eq_true rfl) ⟨Nat.zero_le _, Nat.zero_le _⟩ dX4_count_66 (fun r_8 _ H locs hw_7 hP hD hS => ?_)
      try dsimp only at hw_7 hP hD
      obtain rfl : r_8 = (nI (tot now (nI 3))) := hw_7
      exact RETN _ _ (nI (tot now (nI 3))) () _ _ dX4_count_69 (rfl) (by rw [ctA_j (by decide)]; try rfl) hP hD hS
    · skip
      refine lv_tableIn (off := 69) (tgt := 70) hx hb dX4_count_1 (by decide) (by decide) rfl (by decide) ?_
      refine lv_aload_n hx hb dX4_count_70 rfl (lv_at hl 0 rfl) ?_
      refine cl_Vi (b := (h 0)) (As := []) (rest := []) (wc := MW h cI now past (nI k) bef tri tex (nI tl) ati) (wsN := fun (_ : Unit) => MW h cI now past (nI k) bef tri tex (nI tl) ati) F hK hA hP hD hS (c_X4_blocks) (cwV 0 hts gX4_count_X4_blocks rfl rfl rfl (by decide +kernel) ⟨Nat.le_of_ble_eq_true rfl, Nat.le_of_ble_eq_true rfl⟩) [0, 1, 2, 3, 4, 5] [] [0, 1, 2, 3, 4, 5] ([]) rfl rfl (fun _ => rfl) (by decide) (by decide) 0 rfl rfl rfl hl.1 rfl (Nat.le_of_ble_eq_true rfl) ⟨Nat.zero_le _, Nat.zero_le _⟩ dX4_count_71 (fun r_10 _ H locs hw_9 hP hD hS => ?_)
      try dsimp only at hw_9 hP hD
      obtain rfl : r_10 = (nI (blN now 8)) := hw_9
      exact RETN _ _ (nI (blN now 8)) () _ _ dX4_count_74 (rfl) (by rw [ctA_j (by decide)]; try rfl) hP hD hS
    · skip
      refine lv_tableIn (off := 74) (tgt := 75) hx hb dX4_count_1 (by decide) (by decide) rfl (by decide) ?_
      refine lv_aload_n hx hb dX4_count_75 rfl (lv_at hl 0 rfl) ?_
      refine va_get (D := D) (ci := 4) (v := .ref (h 1)) (C := RX4) (T := TX4) (N := 8) hx hb hts hI4 hown hK.1 hP 0 rfl rfl 0 (by decide) lk7 (fun _ h9 => h9) rfl dX4_count_76 ?_
      refine lv_sipush (v := (nI 666)) hx hb dX4_count_79 (by decide) ?_
      refine n_iald hx hb hK hP 1 0 rfl rfl (by decide) (by omega) dX4_count_82 ?_
      exact RETN _ _ (now 666) () _ _ dX4_count_83 (rfl) (by rw [ctA_j (by decide)]; try rfl) hP hD hS
    · skip
      refine lv_tableIn (off := 83) (tgt := 84) hx hb dX4_count_1 (by decide) (by decide) rfl (by decide) ?_
      refine lv_aload_n hx hb dX4_count_84 rfl (lv_at hl 0 rfl) ?_
      refine cl_Vi (b := (h 0)) (As := []) (rest := []) (wc := MW h cI now past (nI k) bef tri tex (nI tl) ati) (wsN := fun (_ : Unit) => MW h cI now past (nI k) bef tri tex (nI tl) ati) F hK hA hP hD hS (c_X4_bits hbt) (cwV 0 hts gX4_count_X4_bits rfl rfl rfl (by decide +kernel) ⟨Nat.le_of_ble_eq_true rfl, Nat.le_of_ble_eq_true rfl⟩) [0, 1, 2, 3, 4, 5] [] [0, 1, 2, 3, 4, 5] ([]) rfl rfl (fun _ => rfl) (by decide) (by decide) 0 rfl rfl rfl hl.1 rfl (Nat.le_of_ble_eq_true rfl) ⟨Nat.zero_le _, Nat.zero_le _⟩ dX4_count_85 (fun r_12 _ H locs hw_11 hP hD hS => ?_)
      try dsimp only at hw_11 hP hD
      obtain rfl : r_12 = (nI (biN now 10)) := hw_11
      exact RETN _ _ (nI (biN now 10)) () _ _ dX4_count_88 (rfl) (by rw [ctA_j (by decide)]; try rfl) hP hD hS
    · skip
      refine lv_tableIn (off := 88) (tgt := 89) hx hb dX4_count_1 (by decide) (by decide) rfl (by decide) ?_
      refine lv_aload_n hx hb dX4_count_89 rfl (lv_at hl 0 rfl) ?_
      refine cl_Vi (b := (h 0)) (As := []) (rest := []) (wc := MW h cI now past (nI k) bef tri tex (nI tl) ati) (wsN := fun (_ : Unit) => MW h cI now past (nI k) bef tri tex (nI tl) ati) F hK hA hP hD hS (c_X4_full) (cwV 0 hts gX4_count_X4_full rfl rfl rfl (by decide +kernel) ⟨Nat.le_of_ble_eq_true rfl, Nat.le_of_ble_eq_true rfl⟩) [0, 1, 2, 3, 4, 5] [] [0, 1, 2, 3, 4, 5] ([]) rfl rfl (fun _ => rfl) (by decide) (by decide) 0 rfl rfl rfl hl.1 rfl (Nat.le_of_ble_eq_true rfl) ⟨Nat.zero_le _, Nat.zero_le _⟩ dX4_count_90 (fun r_14 _ H locs hw_13 hP hD hS => ?_)
      try dsimp only at hw_13 hP hD
      obtain rfl : r_14 = (nI (fuN now 10)) := hw_13
      exact RETN _ _ (nI (fuN now 10)) () _ _ dX4_count_93 (rfl) (by rw [ctA_j (by decide)]; try rfl) hP hD hS
    · skip
      refine lv_tableIn (off := 93) (tgt := 94) hx hb dX4_count_1 (by decide) (by decide) rfl (by decide) ?_
      refine lv_aload_n hx hb dX4_count_94 rfl (lv_at hl 0 rfl) ?_
      refine lv_iload_n hx hb dX4_count_95 rfl (lv_at hl 1 rfl) ?_
      refine lv_bipush (v := (nI 9)) hx hb dX4_count_96 (by decide) ?_
      refine lv_icmp_ne (tgt := 105) hx hb dX4_count_98 (by decide) (fun c98 => ?_) (fun c98 => ?_)
      · skip
        refine lv_iconst (v := (nI 0)) hx hb dX4_count_105 (by decide) ?_
        refine cl_Vi (b := (h 0)) (As := [.int (nI 0)]) (rest := []) (wc := MW h cI now past (nI k) bef tri tex (nI tl) ati) (wsN := fun (_ : Unit) => MW h cI now past (nI k) bef tri tex (nI tl) ati) F hK hA hP hD hS (c_X4_runs (by decide)) (cwV 1 hts gX4_count_X4_runs rfl rfl rfl (by decide +kernel) ⟨Nat.le_of_ble_eq_true rfl, Nat.le_of_ble_eq_true rfl⟩) [0, 1, 2, 3, 4, 5] [] [0, 1, 2, 3, 4, 5] ([]) rfl rfl (fun _ => rfl) (by decide) (by decide) 0 rfl rfl rfl hl.1 rfl (Nat.le_of_ble_eq_true rfl) ⟨Nat.zero_le _, Nat.zero_le _⟩ dX4_count_106 (fun r_16 _ H locs hw_15 hP hD hS => ?_)
        try dsimp only at hw_15 hP hD
        obtain rfl : r_16 = (nI ((rsg now 320 0 0 0 0).1)) := hw_15
        exact RETN _ _ (nI ((rsg now 320 0 0 0 0).1)) () _ _ dX4_count_109 (rfl) (by rw [ctA_j (by decide)]; try rfl) hP hD hS
      · skip
        exfalso
        exact absurd c98 (by decide)
    · skip
      refine lv_tableIn (off := 93) (tgt := 94) hx hb dX4_count_1 (by decide) (by decide) rfl (by decide) ?_
      refine lv_aload_n hx hb dX4_count_94 rfl (lv_at hl 0 rfl) ?_
      refine lv_iload_n hx hb dX4_count_95 rfl (lv_at hl 1 rfl) ?_
      refine lv_bipush (v := (nI 9)) hx hb dX4_count_96 (by decide) ?_
      refine lv_icmp_ne (tgt := 105) hx hb dX4_count_98 (by decide) (fun c98 => ?_) (fun c98 => ?_)
      · skip
        exfalso
        exact absurd c98 (by decide)
      · skip
        refine lv_iconst (v := (nI 1)) hx hb dX4_count_101 (by decide) ?_
        refine lv_goto (tgt := 106) hx hb dX4_count_102 (by decide) ?_
        refine cl_Vi (b := (h 0)) (As := [.int (nI 1)]) (rest := []) (wc := MW h cI now past (nI k) bef tri tex (nI tl) ati) (wsN := fun (_ : Unit) => MW h cI now past (nI k) bef tri tex (nI tl) ati) F hK hA hP hD hS (c_X4_runs (by decide)) (cwV 1 hts gX4_count_X4_runs rfl rfl rfl (by decide +kernel) ⟨Nat.le_of_ble_eq_true rfl, Nat.le_of_ble_eq_true rfl⟩) [0, 1, 2, 3, 4, 5] [] [0, 1, 2, 3, 4, 5] ([]) rfl rfl (fun _ => rfl) (by decide) (by decide) 0 rfl rfl rfl hl.1 rfl (Nat.le_of_ble_eq_true rfl) ⟨Nat.zero_le _, Nat.zero_le _⟩ dX4_count_106 (fun r_18 _ H locs hw_17 hP hD hS => ?_)
        try dsimp only at hw_17 hP hD
        obtain rfl : r_18 = (nI ((rsg now 320 0 0 0 0).2)) := hw_17
        exact RETN _ _ (nI ((rsg now 320 0 0 0 0).2)) () _ _ dX4_count_109 (rfl) (by rw [ctA_j (by decide)]; try rfl) hP hD hS
    · skip
      refine lv_tableIn (off := 109) (tgt := 110) hx hb dX4_count_1 (by decide) (by decide) rfl (by decide) ?_
      refine lv_aload_n hx hb dX4_count_110 rfl (lv_at hl 0 rfl) ?_
      refine va_get (D := D) (ci := 4) (v := .int (nI k)) (C := RX4) (T := TX4) (N := 8) hx hb hts hI4 hown hK.1 hP 0 rfl rfl 2 (by decide) lk29 (fun _ h9 => h9) rfl dX4_count_111 ?_
      exact RETN _ _ (nI k) () _ _ dX4_count_114 (rfl) (by rw [ctA_j (by decide)]; try rfl) hP hD hS
    · skip
      refine lv_tableIn (off := 114) (tgt := 115) hx hb dX4_count_1 (by decide) (by decide) rfl (by decide) ?_
      refine lv_aload_n hx hb dX4_count_115 rfl (lv_at hl 0 rfl) ?_
      refine va_get (D := D) (ci := 4) (v := .int (nI tl)) (C := RX4) (T := TX4) (N := 8) hx hb hts hI4 hown hK.1 hP 0 rfl rfl 6 (by decide) lk102 (fun _ h9 => h9) rfl dX4_count_116 ?_
      exact RETN _ _ (nI tl) () _ _ dX4_count_119 (rfl) (by rw [ctA_j (by decide)]; try rfl) hP hD hS
set_option maxHeartbeats 4000000 in
set_option maxRecDepth 100000 in
theorem c_X4_slot {l : Launch} {D : va_G} {cI cG cC cR : ClassId} {h : Nat → Nat} {now past bef tri tex : Nat → Int32} {pasts typed ati : Int32} {va vb : Int32} : CtI l yX4_slot wsX4_slot { frames := 1, cells := 0, slots := 0, locals := 22 } D (TY cI cG cC cR) [.ref (h 0), .int va, .int vb] (MW h cI now past pasts bef tri tex typed ati) (fun (_ : Unit) => MW h cI now past pasts bef tri tex typed ati) (fun (r : Int32) (_ : Unit) => r = slA now va vb) := by
  refine CtI.of (cc := cX4_slot) (maxL := 3) (ty := .int) (by decide) rfl (Nat.le_of_ble_eq_true rfl) ?_
  intro P0 e0 s0 m0 a0 b0 t0 c0 A0 Q0 ls F hK hP hD hA RETN hl
  obtain ⟨hx, hb, hml, hown, hts⟩ := id F
  have hS : va_S A0 s0.heap s0.heap [] := va_S.rf
  have hl : lv_has ls 3 [(0, .ref (h 0)), (1, .int va), (2, .int vb)] := hl
  have lk7 := hts (.fieldLink RX4 7 "SlotMapsModel" "now" "[I") (by decide +kernel)
  have hI4 : ∀ w ∈ u_ws RX4 TX4 8, w ∈ wsX4_slot := by decide +kernel
  refine lv_iload_n hx hb dX4_slot_0 rfl (lv_at hl 1 rfl) ?_
  refine lv_iconst (v := (nI 0)) hx hb dX4_slot_1 (by decide) ?_
  refine lv_sipush (v := (nI 319)) hx hb dX4_slot_2 (by decide) ?_
  refine cl_S0 (As := [.int va, .int (nI 0), .int (nI 319)]) (rest := []) F hK hA hP hD hS (c_X4_in) (va_cwS 3 hts gX4_slot_X4_in rfl rfl rfl (by decide +kernel) ⟨Nat.le_of_ble_eq_true rfl, Nat.le_of_ble_eq_true rfl⟩) rfl hl.1 rfl (Nat.le_of_ble_eq_true rfl) ⟨Nat.zero_le _, Nat.zero_le _⟩ dX4_slot_5 (fun r_1 H locs hw_2 hP hS => ?_)
  try dsimp only at hw_2
  obtain rfl : r_1 = (bI (inB va (nI 0) (nI 319))) := hw_2
  refine lv_if_eq (tgt := 20) hx hb dX4_slot_8 (by decide) (fun c8 => ?_) (fun c8 => ?_)
  · skip
    replace c8 : (bI (inB va (nI 0) (nI 319))) = nI 0 := c8
    refine lv_iconst (v := (-1)) hx hb dX4_slot_20 (by decide) ?_
    exact RETN _ _ (-1) () _ _ dX4_slot_21 (rfl) (by first | rw [slA_n (Or.inl (bI_cf c8))] | rw [slA_n (Or.inr (bI_cf c17))]) hP hD hS
  · skip
    replace c8 : ¬ (bI (inB va (nI 0) (nI 319))) = nI 0 := c8
    obtain ⟨a, hlo_a, hhi_a, rfl⟩ := inB_nat (by omega) (by omega) (bI_ct c8)
    refine lv_iload_n hx hb dX4_slot_11 rfl (lv_at hl 2 rfl) ?_
    refine lv_iconst (v := (nI 0)) hx hb dX4_slot_12 (by decide) ?_
    refine lv_iconst (v := (nI 1)) hx hb dX4_slot_13 (by decide) ?_
    refine cl_S0 (As := [.int vb, .int (nI 0), .int (nI 1)]) (rest := []) F hK hA hP hD hS (c_X4_in) (va_cwS 3 hts gX4_slot_X4_in rfl rfl rfl (by decide +kernel) ⟨Nat.le_of_ble_eq_true rfl, Nat.le_of_ble_eq_true rfl⟩) rfl hl.1 rfl (Nat.le_of_ble_eq_true rfl) ⟨Nat.zero_le _, Nat.zero_le _⟩ dX4_slot_14 (fun r_3 H locs hw_4 hP hS => ?_)
    try dsimp only at hw_4
    obtain rfl : r_3 = (bI (inB vb (nI 0) (nI 1))) := hw_4
    refine lv_if_ne (tgt := 22) hx hb dX4_slot_17 (by decide) (fun c17 => ?_) (fun c17 => ?_)
    · skip
      replace c17 : ¬ (bI (inB vb (nI 0) (nI 1))) = nI 0 := c17
      obtain ⟨b2, hlo_b2, hhi_b2, rfl⟩ := inB_nat (by omega) (by omega) (bI_ct c17)
      refine lv_iload_n hx hb dX4_slot_22 rfl (lv_at hl 2 rfl) ?_
      refine lv_if_ne (tgt := 35) hx hb dX4_slot_23 (by decide) (fun c23 => ?_) (fun c23 => ?_)
      · skip
        replace c23 : ¬ b2 = 0 := by rw [show (0 : Int32) = nI 0 from rfl, nI_eq (by omega) (by omega)] at c23; exact c23
        refine lv_aload_n hx hb dX4_slot_35 rfl (lv_at hl 0 rfl) ?_
        refine va_get (D := D) (ci := 4) (v := .ref (h 1)) (C := RX4) (T := TX4) (N := 8) hx hb hts hI4 hown hK.1 hP 0 rfl rfl 0 (by decide) lk7 (fun _ h9 => h9) rfl dX4_slot_36 ?_
        refine lv_sipush (v := (nI 320)) hx hb dX4_slot_39 (by decide) ?_
        refine lv_iload_n hx hb dX4_slot_42 rfl (lv_at hl 1 rfl) ?_
        refine lv_iadd hx hb dX4_slot_43 ?_
        refine n_as (x' := nI (320 + a)) (nI_add _ _) ?_
        refine n_iald hx hb hK hP 1 0 rfl rfl (by decide) (by omega) dX4_slot_44 ?_
        refine lv_if_ne (tgt := 53) hx hb dX4_slot_45 (by decide) (fun c45 => ?_) (fun c45 => ?_)
        · skip
          replace c45 : ¬ (now (320 + a)) = nI 0 := c45
          refine lv_aload_n hx hb dX4_slot_53 rfl (lv_at hl 0 rfl) ?_
          refine va_get (D := D) (ci := 4) (v := .ref (h 1)) (C := RX4) (T := TX4) (N := 8) hx hb hts hI4 hown hK.1 hP 0 rfl rfl 0 (by decide) lk7 (fun _ h9 => h9) rfl dX4_slot_54 ?_
          refine lv_sipush (v := (nI 320)) hx hb dX4_slot_57 (by decide) ?_
          refine lv_iload_n hx hb dX4_slot_60 rfl (lv_at hl 1 rfl) ?_
          refine lv_iadd hx hb dX4_slot_61 ?_
          refine n_as (x' := nI (320 + a)) (nI_add _ _) ?_
          refine n_iald hx hb hK hP 1 0 rfl rfl (by decide) (by omega) dX4_slot_62 ?_
          refine lv_iconst (v := (nI 1)) hx hb dX4_slot_63 (by decide) ?_
          refine lv_isub hx hb dX4_slot_64 ?_
          exact RETN _ _ ((now (320 + a)) - (nI 1)) () _ _ dX4_slot_65 (rfl) (by rw [slA_j (by omega) (by omega)]; first | rw [if_pos c23] | (rw [if_neg c23]; first | rw [if_pos c45] | rw [if_neg c45])) hP hD hS
        · skip
          replace c45 : (now (320 + a)) = nI 0 := c45
          refine lv_bipush (v := (-9)) hx hb dX4_slot_48 (by decide) ?_
          refine lv_goto (tgt := 65) hx hb dX4_slot_50 (by decide) ?_
          exact RETN _ _ (-9) () _ _ dX4_slot_65 (rfl) (by rw [slA_j (by omega) (by omega)]; first | rw [if_pos c23] | (rw [if_neg c23]; first | rw [if_pos c45] | rw [if_neg c45])) hP hD hS
      · skip
        replace c23 : b2 = 0 := by rw [show (0 : Int32) = nI 0 from rfl, nI_eq (by omega) (by omega)] at c23; exact c23
        refine lv_aload_n hx hb dX4_slot_26 rfl (lv_at hl 0 rfl) ?_
        refine va_get (D := D) (ci := 4) (v := .ref (h 1)) (C := RX4) (T := TX4) (N := 8) hx hb hts hI4 hown hK.1 hP 0 rfl rfl 0 (by decide) lk7 (fun _ h9 => h9) rfl dX4_slot_27 ?_
        refine lv_iload_n hx hb dX4_slot_30 rfl (lv_at hl 1 rfl) ?_
        refine n_iald hx hb hK hP 1 0 rfl rfl (by decide) (by omega) dX4_slot_31 ?_
        refine lv_goto (tgt := 65) hx hb dX4_slot_32 (by decide) ?_
        exact RETN _ _ (now a) () _ _ dX4_slot_65 (rfl) (by rw [slA_j (by omega) (by omega)]; first | rw [if_pos c23] | (rw [if_neg c23]; first | rw [if_pos c45] | rw [if_neg c45])) hP hD hS
    · skip
      replace c17 : (bI (inB vb (nI 0) (nI 1))) = nI 0 := c17
      refine lv_iconst (v := (-1)) hx hb dX4_slot_20 (by decide) ?_
      exact RETN _ _ (-1) () _ _ dX4_slot_21 (rfl) (by first | rw [slA_n (Or.inl (bI_cf c8))] | rw [slA_n (Or.inr (bI_cf c17))]) hP hD hS
set_option maxHeartbeats 4000000 in
set_option maxRecDepth 100000 in
theorem c_X4_word {l : Launch} {D : va_G} {cI cG cC cR : ClassId} {h : Nat → Nat} {now past bef tri tex : Nat → Int32} {pasts typed ati : Int32} {va vb : Int32} : CtI l yX4_word wsX4_word { frames := 2, cells := 0, slots := 0, locals := 45 } D (TY cI cG cC cR) [.ref (h 0), .int va, .int vb] (MW h cI now past pasts bef tri tex typed ati) (fun (_ : Unit) => MW h cI now past pasts bef tri tex typed ati) (fun (r : Int32) (_ : Unit) => r = wdA now va vb) := by
  refine CtI.of (cc := cX4_word) (maxL := 3) (ty := .int) (by decide) rfl (Nat.le_of_ble_eq_true rfl) ?_
  intro P0 e0 s0 m0 a0 b0 t0 c0 A0 Q0 ls F hK hP hD hA RETN hl
  obtain ⟨hx, hb, hml, hown, hts⟩ := id F
  have hS : va_S A0 s0.heap s0.heap [] := va_S.rf
  have hl : lv_has ls 3 [(0, .ref (h 0)), (1, .int va), (2, .int vb)] := hl
  have lk7 := hts (.fieldLink RX4 7 "SlotMapsModel" "now" "[I") (by decide +kernel)
  have hI4 : ∀ w ∈ u_ws RX4 TX4 8, w ∈ wsX4_word := by decide +kernel
  refine lv_iload_n hx hb dX4_word_0 rfl (lv_at hl 1 rfl) ?_
  refine cl_S0 (As := [.int va]) (rest := []) F hK hA hP hD hS (c_X4_isWord) (va_cwS 1 hts gX4_word_X4_isWord rfl rfl rfl (by decide +kernel) ⟨Nat.le_of_ble_eq_true rfl, Nat.le_of_ble_eq_true rfl⟩) rfl hl.1 rfl (Nat.le_of_ble_eq_true rfl) ⟨Nat.zero_le _, Nat.zero_le _⟩ dX4_word_1 (fun r_1 H locs hw_2 hP hS => ?_)
  try dsimp only at hw_2
  obtain rfl : r_1 = (bI (inB va (nI 0) (nI 9))) := hw_2
  refine lv_if_eq (tgt := 17) hx hb dX4_word_4 (by decide) (fun c4 => ?_) (fun c4 => ?_)
  · skip
    replace c4 : (bI (inB va (nI 0) (nI 9))) = nI 0 := c4
    refine lv_iconst (v := (-1)) hx hb dX4_word_17 (by decide) ?_
    exact RETN _ _ (-1) () _ _ dX4_word_18 (rfl) (by first | rw [wdA_n (Or.inl (bI_cf c4))] | rw [wdA_n (Or.inr (bI_cf c14))]) hP hD hS
  · skip
    replace c4 : ¬ (bI (inB va (nI 0) (nI 9))) = nI 0 := c4
    obtain ⟨w, hlo_w, hhi_w, rfl⟩ := inB_nat (by omega) (by omega) (bI_ct c4)
    refine lv_iload_n hx hb dX4_word_7 rfl (lv_at hl 2 rfl) ?_
    refine lv_iconst (v := (nI 0)) hx hb dX4_word_8 (by decide) ?_
    refine lv_bipush (v := (nI 6)) hx hb dX4_word_9 (by decide) ?_
    refine cl_S0 (As := [.int vb, .int (nI 0), .int (nI 6)]) (rest := []) F hK hA hP hD hS (c_X4_in) (va_cwS 3 hts gX4_word_X4_in rfl rfl rfl (by decide +kernel) ⟨Nat.le_of_ble_eq_true rfl, Nat.le_of_ble_eq_true rfl⟩) rfl hl.1 rfl (Nat.le_of_ble_eq_true rfl) ⟨Nat.zero_le _, Nat.zero_le _⟩ dX4_word_11 (fun r_3 H locs hw_4 hP hS => ?_)
    try dsimp only at hw_4
    obtain rfl : r_3 = (bI (inB vb (nI 0) (nI 6))) := hw_4
    refine lv_if_ne (tgt := 19) hx hb dX4_word_14 (by decide) (fun c14 => ?_) (fun c14 => ?_)
    · skip
      replace c14 : ¬ (bI (inB vb (nI 0) (nI 6))) = nI 0 := c14
      obtain ⟨j, hlo_j, hhi_j, rfl⟩ := inB_nat (by omega) (by omega) (bI_ct c14)
      refine lv_iload_n hx hb dX4_word_19 rfl (lv_at hl 2 rfl) ?_
      refine lv_iconst (v := (nI 4)) hx hb dX4_word_20 (by decide) ?_
      refine lv_icmp_ge (tgt := 33) hx hb dX4_word_21 (by decide) (fun c21 => ?_) (fun c21 => ?_)
      · skip
        replace c21 : 4 ≤ j := by rw [nI_leI (by omega) (by omega)] at c21; exact c21
        refine lv_iload_n hx hb dX4_word_33 rfl (lv_at hl 2 rfl) ?_
        refine lv_iconst (v := (nI 4)) hx hb dX4_word_34 (by decide) ?_
        refine lv_icmp_ne (tgt := 51) hx hb dX4_word_35 (by decide) (fun c35 => ?_) (fun c35 => ?_)
        · skip
          replace c35 : ¬ j = 4 := by rw [nI_eq (by omega) (by omega)] at c35; exact c35
          refine lv_iload_n hx hb dX4_word_51 rfl (lv_at hl 2 rfl) ?_
          refine lv_iconst (v := (nI 5)) hx hb dX4_word_52 (by decide) ?_
          refine lv_icmp_ne (tgt := 64) hx hb dX4_word_53 (by decide) (fun c53 => ?_) (fun c53 => ?_)
          · skip
            replace c53 : ¬ j = 5 := by rw [nI_eq (by omega) (by omega)] at c53; exact c53
            refine lv_aload_n hx hb dX4_word_64 rfl (lv_at hl 0 rfl) ?_
            refine lv_iload_n hx hb dX4_word_65 rfl (lv_at hl 1 rfl) ?_
            refine cl_Vi (b := (h 0)) (As := [.int (nI w)]) (rest := []) (wc := MW h cI now past pasts bef tri tex typed ati) (wsN := fun (_ : Unit) => MW h cI now past pasts bef tri tex typed ati) F hK hA hP hD hS (c_X4_firstIn (by omega)) (cwV 1 hts gX4_word_X4_firstIn rfl rfl rfl (by decide +kernel) ⟨Nat.le_of_ble_eq_true rfl, Nat.le_of_ble_eq_true rfl⟩) [0, 1, 2, 3, 4, 5] [] [0, 1, 2, 3, 4, 5] ([]) rfl rfl (fun _ => rfl) (by decide) (by decide) 0 rfl rfl rfl hl.1 rfl (Nat.le_of_ble_eq_true rfl) ⟨Nat.zero_le _, Nat.zero_le _⟩ dX4_word_66 (fun r_6 _ H locs hw_5 hP hD hS => ?_)
            try dsimp only at hw_5 hP hD
            obtain rfl : r_6 = (oI (fi now w)) := hw_5
            exact RETN _ _ (oI (fi now w)) () _ _ dX4_word_69 (rfl) (by rw [wdA_j (by omega) (by omega)]; unfold wdN; first | rw [if_pos (by omega)] | (rw [if_neg (by omega)]; first | rw [if_pos (by omega)] | (rw [if_neg (by omega)]; first | rw [if_pos (by omega)] | rw [if_neg (by omega)]))) hP hD hS
          · skip
            replace c53 : j = 5 := by rw [nI_eq (by omega) (by omega)] at c53; exact c53
            refine lv_aload_n hx hb dX4_word_56 rfl (lv_at hl 0 rfl) ?_
            refine lv_iload_n hx hb dX4_word_57 rfl (lv_at hl 1 rfl) ?_
            refine cl_Vi (b := (h 0)) (As := [.int (nI w)]) (rest := []) (wc := MW h cI now past pasts bef tri tex typed ati) (wsN := fun (_ : Unit) => MW h cI now past pasts bef tri tex typed ati) F hK hA hP hD hS (c_X4_right (by omega)) (cwV 1 hts gX4_word_X4_right rfl rfl rfl (by decide +kernel) ⟨Nat.le_of_ble_eq_true rfl, Nat.le_of_ble_eq_true rfl⟩) [0, 1, 2, 3, 4, 5] [] [0, 1, 2, 3, 4, 5] ([]) rfl rfl (fun _ => rfl) (by decide) (by decide) 0 rfl rfl rfl hl.1 rfl (Nat.le_of_ble_eq_true rfl) ⟨Nat.zero_le _, Nat.zero_le _⟩ dX4_word_58 (fun r_8 _ H locs hw_7 hP hD hS => ?_)
            try dsimp only at hw_7 hP hD
            obtain rfl : r_8 = (rt now w) := hw_7
            refine lv_goto (tgt := 69) hx hb dX4_word_61 (by decide) ?_
            exact RETN _ _ (rt now w) () _ _ dX4_word_69 (rfl) (by rw [wdA_j (by omega) (by omega)]; unfold wdN; first | rw [if_pos (by omega)] | (rw [if_neg (by omega)]; first | rw [if_pos (by omega)] | (rw [if_neg (by omega)]; first | rw [if_pos (by omega)] | rw [if_neg (by omega)]))) hP hD hS
        · skip
          replace c35 : j = 4 := by rw [nI_eq (by omega) (by omega)] at c35; exact c35
          refine lv_aload_n hx hb dX4_word_38 rfl (lv_at hl 0 rfl) ?_
          refine va_get (D := D) (ci := 4) (v := .ref (h 1)) (C := RX4) (T := TX4) (N := 8) hx hb hts hI4 hown hK.1 hP 0 rfl rfl 0 (by decide) lk7 (fun _ h9 => h9) rfl dX4_word_39 ?_
          refine lv_sipush (v := (nI 640)) hx hb dX4_word_42 (by decide) ?_
          refine lv_iload_n hx hb dX4_word_45 rfl (lv_at hl 1 rfl) ?_
          refine lv_iadd hx hb dX4_word_46 ?_
          refine n_as (x' := nI (640 + w)) (nI_add _ _) ?_
          refine n_iald hx hb hK hP 1 0 rfl rfl (by decide) (by omega) dX4_word_47 ?_
          refine lv_goto (tgt := 69) hx hb dX4_word_48 (by decide) ?_
          exact RETN _ _ (now (640 + w)) () _ _ dX4_word_69 (rfl) (by rw [wdA_j (by omega) (by omega)]; unfold wdN; first | rw [if_pos (by omega)] | (rw [if_neg (by omega)]; first | rw [if_pos (by omega)] | (rw [if_neg (by omega)]; first | rw [if_pos (by omega)] | rw [if_neg (by omega)]))) hP hD hS
      · skip
        replace c21 : ¬ (4 ≤ j) := by rw [nI_leI (by omega) (by omega)] at c21; exact c21
        refine lv_aload_n hx hb dX4_word_24 rfl (lv_at hl 0 rfl) ?_
        refine lv_iload_n hx hb dX4_word_25 rfl (lv_at hl 1 rfl) ?_
        refine lv_iload_n hx hb dX4_word_26 rfl (lv_at hl 2 rfl) ?_
        refine cl_Vi (b := (h 0)) (As := [.int (nI w), .int (nI j)]) (rest := []) (wc := MW h cI now past pasts bef tri tex typed ati) (wsN := fun (_ : Unit) => MW h cI now past pasts bef tri tex typed ati) F hK hA hP hD hS (c_X4_inWord (by omega)) (cwV 2 hts gX4_word_X4_inWord rfl rfl rfl (by decide +kernel) ⟨Nat.le_of_ble_eq_true rfl, Nat.le_of_ble_eq_true rfl⟩) [0, 1, 2, 3, 4, 5] [] [0, 1, 2, 3, 4, 5] ([]) rfl rfl (fun _ => rfl) (by decide) (by decide) 0 rfl rfl rfl hl.1 rfl (Nat.le_of_ble_eq_true rfl) ⟨Nat.zero_le _, Nat.zero_le _⟩ dX4_word_27 (fun r_10 _ H locs hw_9 hP hD hS => ?_)
        try dsimp only at hw_9 hP hD
        obtain rfl : r_10 = (nI (cw now w (nI j))) := hw_9
        refine lv_goto (tgt := 69) hx hb dX4_word_30 (by decide) ?_
        exact RETN _ _ (nI (cw now w (nI j))) () _ _ dX4_word_69 (rfl) (by rw [wdA_j (by omega) (by omega)]; unfold wdN; first | rw [if_pos (by omega)] | (rw [if_neg (by omega)]; first | rw [if_pos (by omega)] | (rw [if_neg (by omega)]; first | rw [if_pos (by omega)] | rw [if_neg (by omega)]))) hP hD hS
    · skip
      replace c14 : (bI (inB vb (nI 0) (nI 6))) = nI 0 := c14
      refine lv_iconst (v := (-1)) hx hb dX4_word_17 (by decide) ?_
      exact RETN _ _ (-1) () _ _ dX4_word_18 (rfl) (by first | rw [wdA_n (Or.inl (bI_cf c4))] | rw [wdA_n (Or.inr (bI_cf c14))]) hP hD hS
set_option maxHeartbeats 4000000 in
set_option maxRecDepth 100000 in
theorem c_X4_block {l : Launch} {D : va_G} {cI cG cC cR : ClassId} {h : Nat → Nat} {now past bef tri tex : Nat → Int32} {pasts typed ati : Int32} {va vb : Int32} (hB : BInv now) : CtI l yX4_block wsX4_block { frames := 2, cells := 0, slots := 0, locals := 43 } D (TY cI cG cC cR) [.ref (h 0), .int va, .int vb] (MW h cI now past pasts bef tri tex typed ati) (fun (_ : Unit) => MW h cI now past pasts bef tri tex typed ati) (fun (r : Int32) (_ : Unit) => r = bkA now va vb) := by
  refine CtI.of (cc := cX4_block) (maxL := 7) (ty := .int) (by decide) rfl (Nat.le_of_ble_eq_true rfl) ?_
  intro P0 e0 s0 m0 a0 b0 t0 c0 A0 Q0 ls F hK hP hD hA RETN hl
  obtain ⟨hx, hb, hml, hown, hts⟩ := id F
  have hS : va_S A0 s0.heap s0.heap [] := va_S.rf
  have hl : lv_has ls 7 [(0, .ref (h 0)), (1, .int va), (2, .int vb)] := hl
  have lk7 := hts (.fieldLink RX4 7 "SlotMapsModel" "now" "[I") (by decide +kernel)
  have hI4 : ∀ w ∈ u_ws RX4 TX4 8, w ∈ wsX4_block := by decide +kernel
  refine lv_iload_n hx hb dX4_block_0 rfl (lv_at hl 1 rfl) ?_
  refine lv_iconst (v := (nI 0)) hx hb dX4_block_1 (by decide) ?_
  refine lv_bipush (v := (nI 7)) hx hb dX4_block_2 (by decide) ?_
  refine cl_S0 (As := [.int va, .int (nI 0), .int (nI 7)]) (rest := []) F hK hA hP hD hS (c_X4_in) (va_cwS 3 hts gX4_block_X4_in rfl rfl rfl (by decide +kernel) ⟨Nat.le_of_ble_eq_true rfl, Nat.le_of_ble_eq_true rfl⟩) rfl hl.1 rfl (Nat.le_of_ble_eq_true rfl) ⟨Nat.zero_le _, Nat.zero_le _⟩ dX4_block_4 (fun r_1 H locs hw_2 hP hS => ?_)
  try dsimp only at hw_2
  obtain rfl : r_1 = (bI (inB va (nI 0) (nI 7))) := hw_2
  refine lv_if_eq (tgt := 19) hx hb dX4_block_7 (by decide) (fun c7 => ?_) (fun c7 => ?_)
  · skip
    replace c7 : (bI (inB va (nI 0) (nI 7))) = nI 0 := c7
    refine lv_iconst (v := (-1)) hx hb dX4_block_19 (by decide) ?_
    exact RETN _ _ (-1) () _ _ dX4_block_20 (rfl) (by first | rw [bkA_n (Or.inl (bI_cf c7))] | rw [bkA_n (Or.inr (bI_cf c16))]) hP hD hS
  · skip
    replace c7 : ¬ (bI (inB va (nI 0) (nI 7))) = nI 0 := c7
    obtain ⟨a, hlo_a, hhi_a, rfl⟩ := inB_nat (by omega) (by omega) (bI_ct c7)
    refine lv_iload_n hx hb dX4_block_10 rfl (lv_at hl 2 rfl) ?_
    refine lv_iconst (v := (nI 0)) hx hb dX4_block_11 (by decide) ?_
    refine lv_iconst (v := (nI 3)) hx hb dX4_block_12 (by decide) ?_
    refine cl_S0 (As := [.int vb, .int (nI 0), .int (nI 3)]) (rest := []) F hK hA hP hD hS (c_X4_in) (va_cwS 3 hts gX4_block_X4_in rfl rfl rfl (by decide +kernel) ⟨Nat.le_of_ble_eq_true rfl, Nat.le_of_ble_eq_true rfl⟩) rfl hl.1 rfl (Nat.le_of_ble_eq_true rfl) ⟨Nat.zero_le _, Nat.zero_le _⟩ dX4_block_13 (fun r_3 H locs hw_4 hP hS => ?_)
    try dsimp only at hw_4
    obtain rfl : r_3 = (bI (inB vb (nI 0) (nI 3))) := hw_4
    refine lv_if_ne (tgt := 21) hx hb dX4_block_16 (by decide) (fun c16 => ?_) (fun c16 => ?_)
    · skip
      replace c16 : ¬ (bI (inB vb (nI 0) (nI 3))) = nI 0 := c16
      obtain ⟨j, hlo_j, hhi_j, rfl⟩ := inB_nat (by omega) (by omega) (bI_ct c16)
      refine lv_aload_n hx hb dX4_block_21 rfl (lv_at hl 0 rfl) ?_
      refine lv_iload_n hx hb dX4_block_22 rfl (lv_at hl 1 rfl) ?_
      refine cl_Vi (b := (h 0)) (As := [.int (nI a)]) (rest := []) (wc := MW h cI now past pasts bef tri tex typed ati) (wsN := fun (_ : Unit) => MW h cI now past pasts bef tri tex typed ati) F hK hA hP hD hS (c_X4_isBlock) (cwV 1 hts gX4_block_X4_isBlock rfl rfl rfl (by decide +kernel) ⟨Nat.le_of_ble_eq_true rfl, Nat.le_of_ble_eq_true rfl⟩) [0, 1, 2, 3, 4, 5] [] [0, 1, 2, 3, 4, 5] ([]) rfl rfl (fun _ => rfl) (by decide) (by decide) 0 rfl rfl rfl hl.1 rfl (Nat.le_of_ble_eq_true rfl) ⟨Nat.zero_le _, Nat.zero_le _⟩ dX4_block_23 (fun r_6 _ H locs hw_5 hP hD hS => ?_)
      try dsimp only at hw_5 hP hD
      obtain rfl : r_6 = (bI (isB now (nI a))) := hw_5
      refine lv_if_ne (tgt := 32) hx hb dX4_block_26 (by decide) (fun c26 => ?_) (fun c26 => ?_)
      · skip
        replace c26 : ¬ (bI (isB now (nI a))) = nI 0 := c26
        have hb1 := bI_ct c26
        have hb2 := hb1
        rw [isB_k (by omega)] at hb2
        obtain ⟨p, z, hp, hz, hok, hmod, hpz⟩ := hB a (by omega) (of_decide_eq_true hb2)
        refine lv_aload_n hx hb dX4_block_32 rfl (lv_at hl 0 rfl) ?_
        refine va_get (D := D) (ci := 4) (v := .ref (h 1)) (C := RX4) (T := TX4) (N := 8) hx hb hts hI4 hown hK.1 hP 0 rfl rfl 0 (by decide) lk7 (fun _ h9 => h9) rfl dX4_block_33 ?_
        refine lv_sipush (v := (nI 650)) hx hb dX4_block_36 (by decide) ?_
        refine lv_iconst (v := (nI 2)) hx hb dX4_block_39 (by decide) ?_
        refine lv_iload_n hx hb dX4_block_40 rfl (lv_at hl 1 rfl) ?_
        refine lv_imul hx hb dX4_block_41 ?_
        refine n_as (x' := nI (2 * a)) (pk_mul _ _) ?_
        refine lv_iadd hx hb dX4_block_42 ?_
        refine n_as (x' := nI (650 + (2 * a))) (nI_add _ _) ?_
        refine n_iald hx hb hK hP 1 0 rfl rfl (by decide) (by omega) dX4_block_43 ?_
        refine n_as (x' := (nI p)) (hp) ?_
        refine lv_istore_n (lv' := [(3, .int (nI p)), (0, .ref (h 0)), (1, .int (nI a)), (2, .int (nI j))]) hx hb dX4_block_44 rfl hl (by decide) rfl (fun ls hl => ?_)
        refine lv_aload_n hx hb dX4_block_45 rfl (lv_at hl 1 rfl) ?_
        refine va_get (D := D) (ci := 4) (v := .ref (h 1)) (C := RX4) (T := TX4) (N := 8) hx hb hts hI4 hown hK.1 hP 0 rfl rfl 0 (by decide) lk7 (fun _ h9 => h9) rfl dX4_block_46 ?_
        refine lv_sipush (v := (nI 650)) hx hb dX4_block_49 (by decide) ?_
        refine lv_iconst (v := (nI 2)) hx hb dX4_block_52 (by decide) ?_
        refine lv_iload_n hx hb dX4_block_53 rfl (lv_at hl 2 rfl) ?_
        refine lv_imul hx hb dX4_block_54 ?_
        refine n_as (x' := nI (2 * a)) (pk_mul _ _) ?_
        refine lv_iadd hx hb dX4_block_55 ?_
        refine n_as (x' := nI (650 + (2 * a))) (nI_add _ _) ?_
        refine lv_iconst (v := (nI 1)) hx hb dX4_block_56 (by decide) ?_
        refine lv_iadd hx hb dX4_block_57 ?_
        refine n_as (x' := nI ((650 + (2 * a)) + 1)) (nI_add _ _) ?_
        refine n_iald hx hb hK hP 1 0 rfl rfl (by decide) (by omega) dX4_block_58 ?_
        refine n_as (x' := (nI z)) (hz) ?_
        refine lv_istore (lv' := [(4, .int (nI z)), (3, .int (nI p)), (0, .ref (h 0)), (1, .int (nI a)), (2, .int (nI j))]) hx hb dX4_block_59 hl (by decide) rfl (fun ls hl => ?_)
        refine lv_iconst (v := (nI 0)) hx hb dX4_block_61 (by decide) ?_
        refine lv_istore (lv' := [(5, .int (nI 0)), (4, .int (nI z)), (3, .int (nI p)), (0, .ref (h 0)), (1, .int (nI a)), (2, .int (nI j))]) hx hb dX4_block_62 hl (by decide) rfl (fun ls hl => ?_)
        refine lv_iload_n hx hb dX4_block_64 rfl (lv_at hl 2 rfl) ?_
        refine lv_istore (lv' := [(6, .int (nI p)), (5, .int (nI 0)), (4, .int (nI z)), (3, .int (nI p)), (0, .ref (h 0)), (1, .int (nI a)), (2, .int (nI j))]) hx hb dX4_block_65 hl (by decide) rfl (fun ls hl => ?_)
        have LP67 : ∀ (nn : Nat) (i : Nat) (n : Nat) (H : Heap) (locs : List Loc) (ls : Array Slot), i ≤ z → n = bkN now p i j → z - i < nn → va_P D vwCl (MW h cI now past pasts bef tri tex typed ati) H → va_D A0 (MW h cI now past pasts bef tri tex typed ati) → va_S A0 s0.heap H locs → lv_has ls 7 [(6, .int (nI (p + i))), (5, .int (nI n)), (4, .int (nI z)), (3, .int (nI p)), (0, .ref (h 0)), (1, .int (nI a)), (2, .int (nI j))] → W P0 l e0 { frames := 2, cells := 0, slots := 0, locals := 43 } s0 m0 a0 b0 t0 c0 H locs 0 0 Q0 (F0 m0 67 ls []) := by
          intro nn
          induction nn with
          | zero => intro i n H locs ls hi hn hmu; exact absurd hmu (Nat.not_lt_zero _)
          | succ nn ih67 =>
            intro i n H locs ls hi hn hmu67 hP hD hS hl
            have hnl := bkN_le now p i j
            refine lv_iload hx hb dX4_block_67 (lv_at hl 0 rfl) ?_
            refine lv_iload_n hx hb dX4_block_69 rfl (lv_at hl 3 rfl) ?_
            refine lv_iload hx hb dX4_block_70 (lv_at hl 2 rfl) ?_
            refine lv_iadd hx hb dX4_block_72 ?_
            refine n_as (x' := nI (p + z)) (nI_add _ _) ?_
            refine lv_icmp_ge (tgt := 112) hx hb dX4_block_73 (by decide) (fun c73 => ?_) (fun c73 => ?_)
            · skip
              replace c73 : (p + z) ≤ (p + i) := by rw [nI_leI (by omega) (by omega)] at c73; exact c73
              refine lv_iload_n hx hb dX4_block_112 rfl (lv_at hl 6 rfl) ?_
              refine lv_if_ne (tgt := 120) hx hb dX4_block_113 (by decide) (fun c113 => ?_) (fun c113 => ?_)
              · skip
                replace c113 : ¬ j = 0 := by rw [show (0 : Int32) = nI 0 from rfl, nI_eq (by omega) (by omega)] at c113; exact c113
                refine lv_iload_n hx hb dX4_block_120 rfl (lv_at hl 6 rfl) ?_
                refine lv_iconst (v := (nI 1)) hx hb dX4_block_121 (by decide) ?_
                refine lv_icmp_ne (tgt := 130) hx hb dX4_block_122 (by decide) (fun c122 => ?_) (fun c122 => ?_)
                · skip
                  replace c122 : ¬ j = 1 := by rw [nI_eq (by omega) (by omega)] at c122; exact c122
                  refine lv_iload hx hb dX4_block_130 (lv_at hl 1 rfl) ?_
                  exact RETN _ _ (nI n) () _ _ dX4_block_132 (rfl) (by rw [bkA_j (by omega) (by omega) hb1 hp hz hpz]; first | rw [if_pos c113] | (rw [if_neg c113]; first | rw [if_pos c122] | rw [if_neg c122, hn, show i = z by omega])) hP hD hS
                · skip
                  replace c122 : j = 1 := by rw [nI_eq (by omega) (by omega)] at c122; exact c122
                  refine lv_iload hx hb dX4_block_125 (lv_at hl 2 rfl) ?_
                  refine lv_goto (tgt := 132) hx hb dX4_block_127 (by decide) ?_
                  exact RETN _ _ (nI z) () _ _ dX4_block_132 (rfl) (by rw [bkA_j (by omega) (by omega) hb1 hp hz hpz]; first | rw [if_pos c113] | (rw [if_neg c113]; first | rw [if_pos c122] | rw [if_neg c122, hn, show i = z by omega])) hP hD hS
              · skip
                replace c113 : j = 0 := by rw [show (0 : Int32) = nI 0 from rfl, nI_eq (by omega) (by omega)] at c113; exact c113
                refine lv_iload_n hx hb dX4_block_116 rfl (lv_at hl 3 rfl) ?_
                refine lv_goto (tgt := 132) hx hb dX4_block_117 (by decide) ?_
                exact RETN _ _ (nI p) () _ _ dX4_block_132 (rfl) (by rw [bkA_j (by omega) (by omega) hb1 hp hz hpz]; first | rw [if_pos c113] | (rw [if_neg c113]; first | rw [if_pos c122] | rw [if_neg c122, hn, show i = z by omega])) hP hD hS
            · skip
              replace c73 : ¬ ((p + z) ≤ (p + i)) := by rw [nI_leI (by omega) (by omega)] at c73; exact c73
              refine lv_iload hx hb dX4_block_76 (lv_at hl 1 rfl) ?_
              refine lv_aload_n hx hb dX4_block_78 rfl (lv_at hl 4 rfl) ?_
              refine va_get (D := D) (ci := 4) (v := .ref (h 1)) (C := RX4) (T := TX4) (N := 8) hx hb hts hI4 hown hK.1 hP 0 rfl rfl 0 (by decide) lk7 (fun _ h9 => h9) rfl dX4_block_79 ?_
              refine lv_iload hx hb dX4_block_82 (lv_at hl 0 rfl) ?_
              refine n_iald hx hb hK hP 1 0 rfl rfl (by decide) (by omega) dX4_block_84 ?_
              refine lv_iload_n hx hb dX4_block_85 rfl (lv_at hl 6 rfl) ?_
              refine lv_iconst (v := (nI 2)) hx hb dX4_block_86 (by decide) ?_
              refine lv_icmp_ne (tgt := 94) hx hb dX4_block_87 (by decide) (fun c87 => ?_) (fun c87 => ?_)
              · skip
                replace c87 : ¬ j = 2 := by rw [nI_eq (by omega) (by omega)] at c87; exact c87
                refine lv_iconst (v := (nI 3)) hx hb dX4_block_94 (by decide) ?_
                refine lv_icmp_ne (tgt := 102) hx hb dX4_block_95 (by decide) (fun c95 => ?_) (fun c95 => ?_)
                · skip
                  refine lv_iconst (v := (nI 0)) hx hb dX4_block_102 (by decide) ?_
                  refine lv_iadd hx hb dX4_block_103 ?_
                  refine n_as (x' := nI (n + 0)) (nI_add _ _) ?_
                  refine lv_istore (lv' := [(5, .int (nI (n + 0))), (6, .int (nI (p + i))), (4, .int (nI z)), (3, .int (nI p)), (0, .ref (h 0)), (1, .int (nI a)), (2, .int (nI j))]) hx hb dX4_block_104 hl (by decide) rfl (fun ls hl => ?_)
                  refine lv_iinc (v := (nI ((p + i) + 1))) (lv' := [(6, .int (nI ((p + i) + 1))), (5, .int (nI (n + 0))), (4, .int (nI z)), (3, .int (nI p)), (0, .ref (h 0)), (1, .int (nI a)), (2, .int (nI j))]) hx hb dX4_block_106 hl (k := 1) rfl (n_inc1 _) (by decide) rfl (fun ls hl => ?_)
                  refine lv_goto (tgt := 67) hx hb dX4_block_109 (by decide) ?_
                  exact ih67 (i + 1) (n + 0) _ _ _ (by omega) (by rw [hn]; unfold bkN; rw [fb_ct_succ]; simp [c87, c95]) (by omega) hP hD hS (lv_sub hl [0, 1, 2, 3, 4, 5, 6] rfl)
                · skip
                  refine lv_iconst (v := (nI 1)) hx hb dX4_block_98 (by decide) ?_
                  refine lv_goto (tgt := 103) hx hb dX4_block_99 (by decide) ?_
                  refine lv_iadd hx hb dX4_block_103 ?_
                  refine n_as (x' := nI (n + 1)) (nI_add _ _) ?_
                  refine lv_istore (lv' := [(5, .int (nI (n + 1))), (6, .int (nI (p + i))), (4, .int (nI z)), (3, .int (nI p)), (0, .ref (h 0)), (1, .int (nI a)), (2, .int (nI j))]) hx hb dX4_block_104 hl (by decide) rfl (fun ls hl => ?_)
                  refine lv_iinc (v := (nI ((p + i) + 1))) (lv' := [(6, .int (nI ((p + i) + 1))), (5, .int (nI (n + 1))), (4, .int (nI z)), (3, .int (nI p)), (0, .ref (h 0)), (1, .int (nI a)), (2, .int (nI j))]) hx hb dX4_block_106 hl (k := 1) rfl (n_inc1 _) (by decide) rfl (fun ls hl => ?_)
                  refine lv_goto (tgt := 67) hx hb dX4_block_109 (by decide) ?_
                  exact ih67 (i + 1) (n + 1) _ _ _ (by omega) (by rw [hn]; unfold bkN; rw [fb_ct_succ]; simp [c87, c95]) (by omega) hP hD hS (lv_sub hl [0, 1, 2, 3, 4, 5, 6] rfl)
              · skip
                replace c87 : j = 2 := by rw [nI_eq (by omega) (by omega)] at c87; exact c87
                refine lv_iconst (v := (nI 1)) hx hb dX4_block_90 (by decide) ?_
                refine lv_goto (tgt := 95) hx hb dX4_block_91 (by decide) ?_
                refine lv_icmp_ne (tgt := 102) hx hb dX4_block_95 (by decide) (fun c95 => ?_) (fun c95 => ?_)
                · skip
                  refine lv_iconst (v := (nI 0)) hx hb dX4_block_102 (by decide) ?_
                  refine lv_iadd hx hb dX4_block_103 ?_
                  refine n_as (x' := nI (n + 0)) (nI_add _ _) ?_
                  refine lv_istore (lv' := [(5, .int (nI (n + 0))), (6, .int (nI (p + i))), (4, .int (nI z)), (3, .int (nI p)), (0, .ref (h 0)), (1, .int (nI a)), (2, .int (nI j))]) hx hb dX4_block_104 hl (by decide) rfl (fun ls hl => ?_)
                  refine lv_iinc (v := (nI ((p + i) + 1))) (lv' := [(6, .int (nI ((p + i) + 1))), (5, .int (nI (n + 0))), (4, .int (nI z)), (3, .int (nI p)), (0, .ref (h 0)), (1, .int (nI a)), (2, .int (nI j))]) hx hb dX4_block_106 hl (k := 1) rfl (n_inc1 _) (by decide) rfl (fun ls hl => ?_)
                  refine lv_goto (tgt := 67) hx hb dX4_block_109 (by decide) ?_
                  exact ih67 (i + 1) (n + 0) _ _ _ (by omega) (by rw [hn]; unfold bkN; rw [fb_ct_succ]; simp [c87, c95]) (by omega) hP hD hS (lv_sub hl [0, 1, 2, 3, 4, 5, 6] rfl)
                · skip
                  refine lv_iconst (v := (nI 1)) hx hb dX4_block_98 (by decide) ?_
                  refine lv_goto (tgt := 103) hx hb dX4_block_99 (by decide) ?_
                  refine lv_iadd hx hb dX4_block_103 ?_
                  refine n_as (x' := nI (n + 1)) (nI_add _ _) ?_
                  refine lv_istore (lv' := [(5, .int (nI (n + 1))), (6, .int (nI (p + i))), (4, .int (nI z)), (3, .int (nI p)), (0, .ref (h 0)), (1, .int (nI a)), (2, .int (nI j))]) hx hb dX4_block_104 hl (by decide) rfl (fun ls hl => ?_)
                  refine lv_iinc (v := (nI ((p + i) + 1))) (lv' := [(6, .int (nI ((p + i) + 1))), (5, .int (nI (n + 1))), (4, .int (nI z)), (3, .int (nI p)), (0, .ref (h 0)), (1, .int (nI a)), (2, .int (nI j))]) hx hb dX4_block_106 hl (k := 1) rfl (n_inc1 _) (by decide) rfl (fun ls hl => ?_)
                  refine lv_goto (tgt := 67) hx hb dX4_block_109 (by decide) ?_
                  exact ih67 (i + 1) (n + 1) _ _ _ (by omega) (by rw [hn]; unfold bkN; rw [fb_ct_succ]; simp [c87, c95]) (by omega) hP hD hS (lv_sub hl [0, 1, 2, 3, 4, 5, 6] rfl)
        exact LP67 _ 0 0 _ _ _ (by omega) (rfl) (Nat.lt_succ_self _) hP hD hS (lv_sub hl [0, 1, 2, 3, 4, 5, 6] rfl)
      · skip
        replace c26 : (bI (isB now (nI a))) = nI 0 := c26
        refine lv_bipush (v := (-9)) hx hb dX4_block_29 (by decide) ?_
        exact RETN _ _ (-9) () _ _ dX4_block_31 (rfl) (by rw [bkA_9 (by omega) (by omega) (bI_cf c26)]) hP hD hS
    · skip
      replace c16 : (bI (inB vb (nI 0) (nI 3))) = nI 0 := c16
      refine lv_iconst (v := (-1)) hx hb dX4_block_19 (by decide) ?_
      exact RETN _ _ (-1) () _ _ dX4_block_20 (rfl) (by first | rw [bkA_n (Or.inl (bI_cf c7))] | rw [bkA_n (Or.inr (bI_cf c16))]) hP hD hS
set_option maxHeartbeats 4000000 in
set_option maxRecDepth 100000 in
theorem c_X4_audit {l : Launch} {D : va_G} {cI cG cC cR : ClassId} {h : Nat → Nat} {now past bef tri tex : Nat → Int32} {pasts typed ati : Int32} {v : Int32} (hbt : Bits now) : CtI l yX4_audit wsX4_audit { frames := 2, cells := 0, slots := 0, locals := 45 } D (TY cI cG cC cR) [.ref (h 0), .int v] (MW h cI now past pasts bef tri tex typed ati) (fun (_ : Unit) => MW h cI now past pasts bef tri tex typed ati) (fun (r : Int32) (_ : Unit) => r = adA now v) := by
  refine CtI.of (cc := cX4_audit) (maxL := 7) (ty := .int) (by decide) rfl (Nat.le_of_ble_eq_true rfl) ?_
  intro P0 e0 s0 m0 a0 b0 t0 c0 A0 Q0 ls F hK hP hD hA RETN hl
  obtain ⟨hx, hb, hml, hown, hts⟩ := id F
  have hS : va_S A0 s0.heap s0.heap [] := va_S.rf
  have hl : lv_has ls 7 [(0, .ref (h 0)), (1, .int v)] := hl
  have lk7 := hts (.fieldLink RX4 7 "SlotMapsModel" "now" "[I") (by decide +kernel)
  have hI4 : ∀ w ∈ u_ws RX4 TX4 8, w ∈ wsX4_audit := by decide +kernel
  refine lv_iload_n hx hb dX4_audit_0 rfl (lv_at hl 1 rfl) ?_
  refine lv_iconst (v := (nI 0)) hx hb dX4_audit_1 (by decide) ?_
  refine lv_iconst (v := (nI 2)) hx hb dX4_audit_2 (by decide) ?_
  refine cl_S0 (As := [.int v, .int (nI 0), .int (nI 2)]) (rest := []) F hK hA hP hD hS (c_X4_in) (va_cwS 3 hts gX4_audit_X4_in rfl rfl rfl (by decide +kernel) ⟨Nat.le_of_ble_eq_true rfl, Nat.le_of_ble_eq_true rfl⟩) rfl hl.1 rfl (Nat.le_of_ble_eq_true rfl) ⟨Nat.zero_le _, Nat.zero_le _⟩ dX4_audit_3 (fun r_1 H locs hw_2 hP hS => ?_)
  try dsimp only at hw_2
  obtain rfl : r_1 = (bI (inB v (nI 0) (nI 2))) := hw_2
  refine lv_if_ne (tgt := 11) hx hb dX4_audit_6 (by decide) (fun c6 => ?_) (fun c6 => ?_)
  · skip
    replace c6 : ¬ (bI (inB v (nI 0) (nI 2))) = nI 0 := c6
    obtain ⟨j, hlo_j, hhi_j, rfl⟩ := inB_nat (by omega) (by omega) (bI_ct c6)
    refine lv_iconst (v := (nI 0)) hx hb dX4_audit_11 (by decide) ?_
    refine lv_istore_n (lv' := [(2, .int (nI 0)), (0, .ref (h 0)), (1, .int (nI j))]) hx hb dX4_audit_12 rfl hl (by decide) rfl (fun ls hl => ?_)
    refine lv_iconst (v := (nI 0)) hx hb dX4_audit_13 (by decide) ?_
    refine lv_istore_n (lv' := [(3, .int (nI 0)), (2, .int (nI 0)), (0, .ref (h 0)), (1, .int (nI j))]) hx hb dX4_audit_14 rfl hl (by decide) rfl (fun ls hl => ?_)
    refine lv_bipush (v := (-9)) hx hb dX4_audit_15 (by decide) ?_
    refine lv_istore (lv' := [(4, .int (-9)), (3, .int (nI 0)), (2, .int (nI 0)), (0, .ref (h 0)), (1, .int (nI j))]) hx hb dX4_audit_17 hl (by decide) rfl (fun ls hl => ?_)
    refine lv_bipush (v := (nI 9)) hx hb dX4_audit_19 (by decide) ?_
    refine n_as (x' := (dn 10)) (by decide) ?_
    refine lv_istore (lv' := [(5, .int (dn 10)), (4, .int (-9)), (3, .int (nI 0)), (2, .int (nI 0)), (0, .ref (h 0)), (1, .int (nI j))]) hx hb dX4_audit_21 hl (by decide) rfl (fun ls hl => ?_)
    have LP23 : ∀ (nn : Nat) (w1 : Nat) (n : Nat) (m : Nat) (x : Int32) (H : Heap) (locs : List Loc) (ls : Array Slot), w1 ≤ 10 → n + fb_ct (wr now) w1 = fb_ct (wr now) 10 → m + fb_ct (wr1 now) w1 = fb_ct (wr1 now) 10 → x = oI (ls1 (wr now) (10 - w1) w1) → w1 < nn → va_P D vwCl (MW h cI now past pasts bef tri tex typed ati) H → va_D A0 (MW h cI now past pasts bef tri tex typed ati) → va_S A0 s0.heap H locs → lv_has ls 7 [(5, .int (dn w1)), (4, .int x), (3, .int (nI m)), (2, .int (nI n)), (0, .ref (h 0)), (1, .int (nI j))] → W P0 l e0 { frames := 2, cells := 0, slots := 0, locals := 45 } s0 m0 a0 b0 t0 c0 H locs 0 0 Q0 (F0 m0 23 ls []) := by
      intro nn
      induction nn with
      | zero => intro w1 n m x H locs ls hw1 hn hm hx1 hmu; exact absurd hmu (Nat.not_lt_zero _)
      | succ nn ih23 =>
        intro w1 n m x H locs ls hw1 hn hm hx1 hmu23 hP hD hS hl
        refine lv_iload hx hb dX4_audit_23 (lv_at hl 0 rfl) ?_
        refine lv_if_lt (tgt := 111) hx hb dX4_audit_25 (by decide) (fun c25 => ?_) (fun c25 => ?_)
        · skip
          obtain rfl : w1 = 0 := dn_1 hw1 c25
          refine lv_iload_n hx hb dX4_audit_111 rfl (lv_at hl 5 rfl) ?_
          refine lv_if_ne (tgt := 119) hx hb dX4_audit_112 (by decide) (fun c112 => ?_) (fun c112 => ?_)
          · skip
            replace c112 : ¬ j = 0 := by rw [show (0 : Int32) = nI 0 from rfl, nI_eq (by omega) (by omega)] at c112; exact c112
            refine lv_iload_n hx hb dX4_audit_119 rfl (lv_at hl 5 rfl) ?_
            refine lv_iconst (v := (nI 1)) hx hb dX4_audit_120 (by decide) ?_
            refine lv_icmp_ne (tgt := 129) hx hb dX4_audit_121 (by decide) (fun c121 => ?_) (fun c121 => ?_)
            · skip
              replace c121 : ¬ j = 1 := by rw [nI_eq (by omega) (by omega)] at c121; exact c121
              refine lv_iload_n hx hb dX4_audit_129 rfl (lv_at hl 2 rfl) ?_
              exact RETN _ _ (nI m) () _ _ dX4_audit_130 (rfl) (by rw [adA_j (by omega)]; first | rw [if_pos c112, ← hn]; rfl | (rw [if_neg c112]; first | rw [if_pos c121, hx1] | rw [if_neg c121, ← hm]; rfl)) hP hD hS
            · skip
              replace c121 : j = 1 := by rw [nI_eq (by omega) (by omega)] at c121; exact c121
              refine lv_iload hx hb dX4_audit_124 (lv_at hl 1 rfl) ?_
              refine lv_goto (tgt := 130) hx hb dX4_audit_126 (by decide) ?_
              exact RETN _ _ x () _ _ dX4_audit_130 (rfl) (by rw [adA_j (by omega)]; first | rw [if_pos c112, ← hn]; rfl | (rw [if_neg c112]; first | rw [if_pos c121, hx1] | rw [if_neg c121, ← hm]; rfl)) hP hD hS
          · skip
            replace c112 : j = 0 := by rw [show (0 : Int32) = nI 0 from rfl, nI_eq (by omega) (by omega)] at c112; exact c112
            refine lv_iload_n hx hb dX4_audit_115 rfl (lv_at hl 3 rfl) ?_
            refine lv_goto (tgt := 130) hx hb dX4_audit_116 (by decide) ?_
            exact RETN _ _ (nI n) () _ _ dX4_audit_130 (rfl) (by rw [adA_j (by omega)]; first | rw [if_pos c112, ← hn]; rfl | (rw [if_neg c112]; first | rw [if_pos c121, hx1] | rw [if_neg c121, ← hm]; rfl)) hP hD hS
        · skip
          obtain ⟨w, rfl⟩ := dn_0 hw1 c25
          rw [dn_s] at hl
          refine lv_aload_n hx hb dX4_audit_28 rfl (lv_at hl 4 rfl) ?_
          refine va_get (D := D) (ci := 4) (v := .ref (h 1)) (C := RX4) (T := TX4) (N := 8) hx hb hts hI4 hown hK.1 hP 0 rfl rfl 0 (by decide) lk7 (fun _ h9 => h9) rfl dX4_audit_29 ?_
          refine lv_sipush (v := (nI 640)) hx hb dX4_audit_32 (by decide) ?_
          refine lv_iload hx hb dX4_audit_35 (lv_at hl 0 rfl) ?_
          refine lv_iadd hx hb dX4_audit_37 ?_
          refine n_as (x' := nI (640 + w)) (nI_add _ _) ?_
          refine n_iald hx hb hK hP 1 0 rfl rfl (by decide) (by omega) dX4_audit_38 ?_
          refine lv_aload_n hx hb dX4_audit_39 rfl (lv_at hl 4 rfl) ?_
          refine lv_iload hx hb dX4_audit_40 (lv_at hl 0 rfl) ?_
          refine cl_Vi (b := (h 0)) (As := [.int (nI w)]) (rest := [.int (now (640 + w))]) (wc := MW h cI now past pasts bef tri tex typed ati) (wsN := fun (_ : Unit) => MW h cI now past pasts bef tri tex typed ati) F hK hA hP hD hS (c_X4_right (by omega)) (cwV 1 hts gX4_audit_X4_right rfl rfl rfl (by decide +kernel) ⟨Nat.le_of_ble_eq_true rfl, Nat.le_of_ble_eq_true rfl⟩) [0, 1, 2, 3, 4, 5] [] [0, 1, 2, 3, 4, 5] ([]) rfl rfl (fun _ => rfl) (by decide) (by decide) 0 rfl rfl rfl hl.1 rfl (Nat.le_of_ble_eq_true rfl) ⟨Nat.zero_le _, Nat.zero_le _⟩ dX4_audit_42 (fun r_4 _ H locs hw_3 hP hD hS => ?_)
          try dsimp only at hw_3 hP hD
          obtain rfl : r_4 = (rt now w) := hw_3
          refine lv_icmp_eq (tgt := 52) hx hb dX4_audit_45 (by decide) (fun c45 => ?_) (fun c45 => ?_)
          · skip
            refine lv_iconst (v := (nI 0)) hx hb dX4_audit_52 (by decide) ?_
            refine lv_istore (lv' := [(6, .int (nI 0)), (5, .int (nI w)), (4, .int x), (3, .int (nI m)), (2, .int (nI n)), (0, .ref (h 0)), (1, .int (nI j))]) hx hb dX4_audit_53 hl (by decide) rfl (fun ls hl => ?_)
            refine lv_iload_n hx hb dX4_audit_55 rfl (lv_at hl 4 rfl) ?_
            refine lv_iload hx hb dX4_audit_56 (lv_at hl 0 rfl) ?_
            refine lv_if_eq (tgt := 65) hx hb dX4_audit_58 (by decide) (fun c58 => ?_) (fun c58 => ?_)
            · skip
              refine lv_iconst (v := (nI 0)) hx hb dX4_audit_65 (by decide) ?_
              refine lv_iadd hx hb dX4_audit_66 ?_
              refine n_as (x' := nI (n + 0)) (nI_add _ _) ?_
              refine lv_istore_n (lv' := [(2, .int (nI (n + 0))), (6, .int (nI 0)), (5, .int (nI w)), (4, .int x), (3, .int (nI m)), (0, .ref (h 0)), (1, .int (nI j))]) hx hb dX4_audit_67 rfl hl (by decide) rfl (fun ls hl => ?_)
              refine lv_iload_n hx hb dX4_audit_68 rfl (lv_at hl 4 rfl) ?_
              refine lv_iload hx hb dX4_audit_69 (lv_at hl 1 rfl) ?_
              refine lv_if_eq (tgt := 88) hx hb dX4_audit_71 (by decide) (fun c71 => ?_) (fun c71 => ?_)
              · skip
                refine lv_iconst (v := (nI 0)) hx hb dX4_audit_88 (by decide) ?_
                refine lv_iadd hx hb dX4_audit_89 ?_
                refine n_as (x' := nI (m + 0)) (nI_add _ _) ?_
                refine lv_istore_n (lv' := [(3, .int (nI (m + 0))), (2, .int (nI (n + 0))), (6, .int (nI 0)), (5, .int (nI w)), (4, .int x), (0, .ref (h 0)), (1, .int (nI j))]) hx hb dX4_audit_90 rfl hl (by decide) rfl (fun ls hl => ?_)
                refine lv_iload hx hb dX4_audit_91 (lv_at hl 2 rfl) ?_
                refine lv_if_eq (tgt := 101) hx hb dX4_audit_93 (by decide) (fun c93 => ?_) (fun c93 => ?_)
                · skip
                  refine lv_iload hx hb dX4_audit_101 (lv_at hl 4 rfl) ?_
                  refine lv_istore (lv' := [(4, .int x), (3, .int (nI (m + 0))), (2, .int (nI (n + 0))), (6, .int (nI 0)), (5, .int (nI w)), (0, .ref (h 0)), (1, .int (nI j))]) hx hb dX4_audit_103 hl (by decide) rfl (fun ls hl => ?_)
                  refine lv_iinc (v := (dn w)) (lv' := [(5, .int (dn w)), (4, .int x), (3, .int (nI (m + 0))), (2, .int (nI (n + 0))), (6, .int (nI 0)), (0, .ref (h 0)), (1, .int (nI j))]) hx hb dX4_audit_105 hl (k := 4) rfl (dn_d w) (by decide) rfl (fun ls hl => ?_)
                  refine lv_goto (tgt := 23) hx hb dX4_audit_108 (by decide) ?_
                  exact ih23 w (n + 0) (m + 0) x _ _ _ (by omega) (by rw [← hn, fb_ct_succ]; simp [wr, c45]; try omega) (by rw [← hm, fb_ct_succ]; simp [wr1, c45]; try omega) (by first | (rw [hx1, ls1_no (a := w) (e := 10) (by omega) (by simp [wr, c45])]) | (rw [ls1_yes (a := w) (e := 10) (by omega) (by simp [wr, c45])]; rfl)) (by omega) hP hD hS (lv_sub hl [0, 1, 2, 3, 5, 6] rfl)
                · skip
                  exfalso
                  exact absurd c93 (by decide)
              · skip
                exfalso
                exact absurd c71 (by decide)
            · skip
              exfalso
              exact absurd c58 (by decide)
          · skip
            refine lv_iconst (v := (nI 1)) hx hb dX4_audit_48 (by decide) ?_
            refine lv_goto (tgt := 53) hx hb dX4_audit_49 (by decide) ?_
            refine lv_istore (lv' := [(6, .int (nI 1)), (5, .int (nI w)), (4, .int x), (3, .int (nI m)), (2, .int (nI n)), (0, .ref (h 0)), (1, .int (nI j))]) hx hb dX4_audit_53 hl (by decide) rfl (fun ls hl => ?_)
            refine lv_iload_n hx hb dX4_audit_55 rfl (lv_at hl 4 rfl) ?_
            refine lv_iload hx hb dX4_audit_56 (lv_at hl 0 rfl) ?_
            refine lv_if_eq (tgt := 65) hx hb dX4_audit_58 (by decide) (fun c58 => ?_) (fun c58 => ?_)
            · skip
              exfalso
              exact absurd c58 (by decide)
            · skip
              refine lv_iconst (v := (nI 1)) hx hb dX4_audit_61 (by decide) ?_
              refine lv_goto (tgt := 66) hx hb dX4_audit_62 (by decide) ?_
              refine lv_iadd hx hb dX4_audit_66 ?_
              refine n_as (x' := nI (n + 1)) (nI_add _ _) ?_
              refine lv_istore_n (lv' := [(2, .int (nI (n + 1))), (6, .int (nI 1)), (5, .int (nI w)), (4, .int x), (3, .int (nI m)), (0, .ref (h 0)), (1, .int (nI j))]) hx hb dX4_audit_67 rfl hl (by decide) rfl (fun ls hl => ?_)
              refine lv_iload_n hx hb dX4_audit_68 rfl (lv_at hl 4 rfl) ?_
              refine lv_iload hx hb dX4_audit_69 (lv_at hl 1 rfl) ?_
              refine lv_if_eq (tgt := 88) hx hb dX4_audit_71 (by decide) (fun c71 => ?_) (fun c71 => ?_)
              · skip
                exfalso
                exact absurd c71 (by decide)
              · skip
                refine lv_aload_n hx hb dX4_audit_74 rfl (lv_at hl 5 rfl) ?_
                refine va_get (D := D) (ci := 4) (v := .ref (h 1)) (C := RX4) (T := TX4) (N := 8) hx hb hts hI4 hown hK.1 hP 0 rfl rfl 0 (by decide) lk7 (fun _ h9 => h9) rfl dX4_audit_75 ?_
                refine lv_sipush (v := (nI 640)) hx hb dX4_audit_78 (by decide) ?_
                refine lv_iload hx hb dX4_audit_81 (lv_at hl 2 rfl) ?_
                refine lv_iadd hx hb dX4_audit_83 ?_
                refine n_as (x' := nI (640 + w)) (nI_add _ _) ?_
                refine n_iald hx hb hK hP 1 0 rfl rfl (by decide) (by omega) dX4_audit_84 ?_
                refine lv_goto (tgt := 89) hx hb dX4_audit_85 (by decide) ?_
                refine lv_iadd hx hb dX4_audit_89 ?_
                refine n_as (x' := (nI (m + (if now (640 + w) = nI 1 then 1 else 0)))) (bit_add (hbt w (by omega))) ?_
                refine lv_istore_n (lv' := [(3, .int (nI (m + (if now (640 + w) = nI 1 then 1 else 0)))), (2, .int (nI (n + 1))), (6, .int (nI 1)), (5, .int (nI w)), (4, .int x), (0, .ref (h 0)), (1, .int (nI j))]) hx hb dX4_audit_90 rfl hl (by decide) rfl (fun ls hl => ?_)
                refine lv_iload hx hb dX4_audit_91 (lv_at hl 2 rfl) ?_
                refine lv_if_eq (tgt := 101) hx hb dX4_audit_93 (by decide) (fun c93 => ?_) (fun c93 => ?_)
                · skip
                  exfalso
                  exact absurd c93 (by decide)
                · skip
                  refine lv_iload hx hb dX4_audit_96 (lv_at hl 3 rfl) ?_
                  refine lv_goto (tgt := 103) hx hb dX4_audit_98 (by decide) ?_
                  refine lv_istore (lv' := [(4, .int (nI w)), (3, .int (nI (m + (if now (640 + w) = nI 1 then 1 else 0)))), (2, .int (nI (n + 1))), (6, .int (nI 1)), (5, .int (nI w)), (0, .ref (h 0)), (1, .int (nI j))]) hx hb dX4_audit_103 hl (by decide) rfl (fun ls hl => ?_)
                  refine lv_iinc (v := (dn w)) (lv' := [(5, .int (dn w)), (4, .int (nI w)), (3, .int (nI (m + (if now (640 + w) = nI 1 then 1 else 0)))), (2, .int (nI (n + 1))), (6, .int (nI 1)), (0, .ref (h 0)), (1, .int (nI j))]) hx hb dX4_audit_105 hl (k := 4) rfl (dn_d w) (by decide) rfl (fun ls hl => ?_)
                  refine lv_goto (tgt := 23) hx hb dX4_audit_108 (by decide) ?_
                  exact ih23 w (n + 1) (m + (if now (640 + w) = nI 1 then 1 else 0)) (nI w) _ _ _ (by omega) (by rw [← hn, fb_ct_succ]; simp [wr, c45]; try omega) (by rw [← hm, fb_ct_succ]; simp [wr1, c45]; try omega) (by first | (rw [hx1, ls1_no (a := w) (e := 10) (by omega) (by simp [wr, c45])]) | (rw [ls1_yes (a := w) (e := 10) (by omega) (by simp [wr, c45])]; rfl)) (by omega) hP hD hS (lv_sub hl [0, 1, 2, 3, 5, 6] rfl)
    exact LP23 _ 10 0 0 (-9) _ _ _ (by omega) (Nat.zero_add _) (Nat.zero_add _) (rfl) (Nat.lt_succ_self _) hP hD hS (lv_sub hl [0, 1, 2, 3, 4, 5] rfl)
  · skip
    replace c6 : (bI (inB v (nI 0) (nI 2))) = nI 0 := c6
    refine lv_iconst (v := (-1)) hx hb dX4_audit_9 (by decide) ?_
    exact RETN _ _ (-1) () _ _ dX4_audit_10 (rfl) (by rw [adA_n (bI_cf c6)]) hP hD hS
set_option maxHeartbeats 4000000 in
set_option maxRecDepth 100000 in
theorem c_X4_next {l : Launch} {D : va_G} {cI cG cC cR : ClassId} {h : Nat → Nat} {now past bef tri tex : Nat → Int32} {pasts typed ati : Int32} {v : Int32} : CtI l yX4_next wsX4_next { frames := 5, cells := 0, slots := 0, locals := 113 } D (TY cI cG cC cR) [.ref (h 0), .int v] (MW h cI now past pasts bef tri tex typed ati) (fun (u : Nat → Int32) => MW h cI now past pasts bef u tex typed ati) (fun (r : Int32) (u : Nat → Int32) => r = nxA now v) := by
  refine CtI.of (cc := cX4_next) (maxL := 6) (ty := .int) (by decide) rfl (Nat.le_of_ble_eq_true rfl) ?_
  intro P0 e0 s0 m0 a0 b0 t0 c0 A0 Q0 ls F hK hP hD hA RETN hl
  obtain ⟨hx, hb, hml, hown, hts⟩ := id F
  have hS : va_S A0 s0.heap s0.heap [] := va_S.rf
  have hl : lv_has ls 6 [(0, .ref (h 0)), (1, .int v)] := hl
  have lk19 := hts (.fieldLink RX4 19 "SlotMapsModel" "trial" "[I") (by decide +kernel)
  have lk7 := hts (.fieldLink RX4 7 "SlotMapsModel" "now" "[I") (by decide +kernel)
  have hI4 : ∀ w ∈ u_ws RX4 TX4 8, w ∈ wsX4_next := by decide +kernel
  refine lv_iload_n hx hb dX4_next_0 rfl (lv_at hl 1 rfl) ?_
  refine lv_iconst (v := (nI 0)) hx hb dX4_next_1 (by decide) ?_
  refine lv_iconst (v := (nI 2)) hx hb dX4_next_2 (by decide) ?_
  refine cl_S0 (As := [.int v, .int (nI 0), .int (nI 2)]) (rest := []) F hK hA hP hD hS (c_X4_in) (va_cwS 3 hts gX4_next_X4_in rfl rfl rfl (by decide +kernel) ⟨Nat.le_of_ble_eq_true rfl, Nat.le_of_ble_eq_true rfl⟩) rfl hl.1 rfl (Nat.le_of_ble_eq_true rfl) ⟨Nat.zero_le _, Nat.zero_le _⟩ dX4_next_3 (fun r_1 H locs hw_2 hP hS => ?_)
  try dsimp only at hw_2
  obtain rfl : r_1 = (bI (inB v (nI 0) (nI 2))) := hw_2
  refine lv_if_ne (tgt := 11) hx hb dX4_next_6 (by decide) (fun c6 => ?_) (fun c6 => ?_)
  · skip
    replace c6 : ¬ (bI (inB v (nI 0) (nI 2))) = nI 0 := c6
    obtain ⟨j, hlo_j, hhi_j, rfl⟩ := inB_nat (by omega) (by omega) (bI_ct c6)
    refine lv_aload_n hx hb dX4_next_11 rfl (lv_at hl 0 rfl) ?_
    refine va_get (D := D) (ci := 4) (v := .ref (h 1)) (C := RX4) (T := TX4) (N := 8) hx hb hts hI4 hown hK.1 hP 0 rfl rfl 0 (by decide) lk7 (fun _ h9 => h9) rfl dX4_next_12 ?_
    refine lv_iconst (v := (nI 0)) hx hb dX4_next_15 (by decide) ?_
    refine lv_aload_n hx hb dX4_next_16 rfl (lv_at hl 0 rfl) ?_
    refine va_get (D := D) (ci := 4) (v := .ref (h 4)) (C := RX4) (T := TX4) (N := 8) hx hb hts hI4 hown hK.1 hP 0 rfl rfl 4 (by decide) lk19 (fun _ h9 => h9) rfl dX4_next_17 ?_
    refine lv_iconst (v := (nI 0)) hx hb dX4_next_20 (by decide) ?_
    refine cl_Sv (As := [.ref (h 1), .int (nI 0), .ref (h 4), .int (nI 0)]) (rest := []) (wc := [(h 1, .inl (cI, 667, .inl now)), (h 4, .inl (cI, 667, .inl tri))]) (wsN := fun (_ : Unit) => MW h cI now past pasts bef (va_cpy now tri 0 0 667) tex typed ati) F hK hA hP hD hS (c_X4_copies (by omega) (by omega) (by omega) (by omega)) (va_cwS 4 hts gX4_next_X4_copies rfl rfl rfl (by decide +kernel) ⟨Nat.le_of_ble_eq_true rfl, Nat.le_of_ble_eq_true rfl⟩) [1, 4] [0, 2, 3, 5] [0, 4, 1, 2, 5, 3] ([(h 0, .inr (4, [.ref (h 1), .ref (h 2), .int pasts, .ref (h 3), .ref (h 4), .ref (h 5), .int typed, .int ati])), (h 2, .inl (cI, 3335, .inl past)), (h 3, .inl (cI, 667, .inl bef)), (h 5, .inl (cI, 80, .inl tex))]) rfl rfl (fun _ => rfl) (by decide) (by decide) rfl hl.1 rfl (Nat.le_of_ble_eq_true rfl) ⟨Nat.zero_le _, Nat.zero_le _⟩ dX4_next_21 (fun _ H locs hw_3 hP hD hS => ?_)
    try dsimp only at hw_3 hP hD
    have hP := vc_arr (g := now) (wsN := MW h cI now past pasts bef now tex typed ati) 4 rfl (fun j hj => sb_cpy0 hj) rfl hP
    have hD := vc_arrD (g := now) (wsN := MW h cI now past pasts bef now tex typed ati) 4 rfl rfl hD
    refine lv_aload_n hx hb dX4_next_24 rfl (lv_at hl 0 rfl) ?_
    refine lv_iconst (v := (nI 2)) hx hb dX4_next_25 (by decide) ?_
    have hto := tot_le now (nI 2) 10 (by decide)
    replace hto : tot now (nI 2) ≤ 320 := hto
    refine cl_Vi (b := (h 0)) (As := [.int (nI 2)]) (rest := []) (wc := MW h cI now past pasts bef now tex typed ati) (wsN := fun (_ : Unit) => MW h cI now past pasts bef now tex typed ati) F hK hA hP hD hS (c_X4_inAll) (cwV 1 hts gX4_next_X4_inAll rfl rfl rfl (by decide +kernel) ⟨Nat.le_of_ble_eq_true rfl, Nat.le_of_ble_eq_true rfl⟩) [0, 1, 2, 3, 4, 5] [] [0, 1, 2, 3, 4, 5] ([]) rfl rfl (fun _ => rfl) (by decide) (by decide) 0 rfl rfl rfl hl.1 rfl (Nat.le_of_ble_eq_true rfl) ⟨Nat.zero_le _, Nat.zero_le _⟩ dX4_next_26 (fun r_6 _ H locs hw_5 hP hD hS => ?_)
    try dsimp only at hw_5 hP hD
    obtain rfl : r_6 = (nI (tot now (nI 2))) := hw_5
    refine lv_istore_n (lv' := [(2, .int (nI (tot now (nI 2)))), (0, .ref (h 0)), (1, .int (nI j))]) hx hb dX4_next_29 rfl hl (by decide) rfl (fun ls hl => ?_)
    refine lv_aload_n hx hb dX4_next_30 rfl (lv_at hl 1 rfl) ?_
    refine cl_Vi (b := (h 0)) (As := []) (rest := []) (wc := MW h cI now past pasts bef now tex typed ati) (wsN := fun (u1 : Nat → Int32) => MW h cI u1 past pasts bef now tex typed ati) F hK hA hP hD hS (c_X4_takes1) (cwV 0 hts gX4_next_X4_takes1 rfl rfl rfl (by decide +kernel) ⟨Nat.le_of_ble_eq_true rfl, Nat.le_of_ble_eq_true rfl⟩) [0, 1, 2, 3, 4, 5] [] [0, 1, 2, 3, 4, 5] ([]) rfl rfl (fun _ => rfl) (by decide) (by decide) 0 rfl rfl rfl hl.1 rfl (Nat.le_of_ble_eq_true rfl) ⟨Nat.zero_le _, Nat.zero_le _⟩ dX4_next_31 (fun r1 u1 H locs hw_7 hP hD hS => ?_)
    try dsimp only at hw_7 hP hD
    obtain ⟨hr1, rfl⟩ := hw_7
    have hP : va_P D vwCl (MW h cI ((tk now).2) past pasts bef now tex typed ati) H := hP
    have hD : va_D A0 (MW h cI ((tk now).2) past pasts bef now tex typed ati) := hD
    cases ho : (tk now).1 with
    | none =>
      obtain rfl : r1 = -3 := by rw [hr1, ho]; rfl
      refine lv_istore_n (lv' := [(3, .int (-3)), (2, .int (nI (tot now (nI 2)))), (0, .ref (h 0)), (1, .int (nI j))]) hx hb dX4_next_34 rfl hl (by decide) rfl (fun ls hl => ?_)
      refine lv_aload_n hx hb dX4_next_35 rfl (lv_at hl 2 rfl) ?_
      refine va_get (D := D) (ci := 4) (v := .ref (h 1)) (C := RX4) (T := TX4) (N := 8) hx hb hts hI4 hown hK.1 hP 0 rfl rfl 0 (by decide) lk7 (fun _ h9 => h9) rfl dX4_next_36 ?_
      refine lv_sipush (v := (nI 666)) hx hb dX4_next_39 (by decide) ?_
      refine n_iald hx hb hK hP 1 0 rfl rfl (by decide) (by omega) dX4_next_42 ?_
      refine lv_aload_n hx hb dX4_next_43 rfl (lv_at hl 2 rfl) ?_
      refine va_get (D := D) (ci := 4) (v := .ref (h 4)) (C := RX4) (T := TX4) (N := 8) hx hb hts hI4 hown hK.1 hP 0 rfl rfl 4 (by decide) lk19 (fun _ h9 => h9) rfl dX4_next_44 ?_
      refine lv_sipush (v := (nI 666)) hx hb dX4_next_47 (by decide) ?_
      refine n_iald hx hb hK hP 4 0 rfl rfl (by decide) (by omega) dX4_next_50 ?_
      refine lv_isub hx hb dX4_next_51 ?_
      refine lv_istore (lv' := [(4, .int ((((tk now).2) 666) - (now 666))), (3, .int (-3)), (2, .int (nI (tot now (nI 2)))), (0, .ref (h 0)), (1, .int (nI j))]) hx hb dX4_next_52 hl (by decide) rfl (fun ls hl => ?_)
      refine lv_aload_n hx hb dX4_next_54 rfl (lv_at hl 3 rfl) ?_
      refine lv_iconst (v := (nI 2)) hx hb dX4_next_55 (by decide) ?_
      have hto2 := tot_le (tk now).2 (nI 2) 10 (by decide)
      replace hto2 : tot (tk now).2 (nI 2) ≤ 320 := hto2
      refine cl_Vi (b := (h 0)) (As := [.int (nI 2)]) (rest := []) (wc := MW h cI ((tk now).2) past pasts bef now tex typed ati) (wsN := fun (_ : Unit) => MW h cI ((tk now).2) past pasts bef now tex typed ati) F hK hA hP hD hS (c_X4_inAll) (cwV 1 hts gX4_next_X4_inAll rfl rfl rfl (by decide +kernel) ⟨Nat.le_of_ble_eq_true rfl, Nat.le_of_ble_eq_true rfl⟩) [0, 1, 2, 3, 4, 5] [] [0, 1, 2, 3, 4, 5] ([]) rfl rfl (fun _ => rfl) (by decide) (by decide) 0 rfl rfl rfl hl.1 rfl (Nat.le_of_ble_eq_true rfl) ⟨Nat.zero_le _, Nat.zero_le _⟩ dX4_next_56 (fun r_10 _ H locs hw_9 hP hD hS => ?_)
      try dsimp only at hw_9 hP hD
      obtain rfl : r_10 = (nI (tot (tk now).2 (nI 2))) := hw_9
      refine lv_iload_n hx hb dX4_next_59 rfl (lv_at hl 2 rfl) ?_
      refine lv_icmp_ge (tgt := 67) hx hb dX4_next_60 (by decide) (fun c60 => ?_) (fun c60 => ?_)
      · skip
        replace c60 : (tot now (nI 2)) ≤ (tot (tk now).2 (nI 2)) := by rw [nI_leI (by omega) (by omega)] at c60; exact c60
        refine lv_iconst (v := (nI 0)) hx hb dX4_next_67 (by decide) ?_
        refine lv_istore (lv' := [(5, .int (nI 0)), (4, .int ((((tk now).2) 666) - (now 666))), (3, .int (-3)), (2, .int (nI (tot now (nI 2)))), (0, .ref (h 0)), (1, .int (nI j))]) hx hb dX4_next_68 hl (by decide) rfl (fun ls hl => ?_)
        refine lv_aload_n hx hb dX4_next_70 rfl (lv_at hl 4 rfl) ?_
        refine va_get (D := D) (ci := 4) (v := .ref (h 4)) (C := RX4) (T := TX4) (N := 8) hx hb hts hI4 hown hK.1 hP 0 rfl rfl 4 (by decide) lk19 (fun _ h9 => h9) rfl dX4_next_71 ?_
        refine lv_iconst (v := (nI 0)) hx hb dX4_next_74 (by decide) ?_
        refine lv_aload_n hx hb dX4_next_75 rfl (lv_at hl 4 rfl) ?_
        refine va_get (D := D) (ci := 4) (v := .ref (h 1)) (C := RX4) (T := TX4) (N := 8) hx hb hts hI4 hown hK.1 hP 0 rfl rfl 0 (by decide) lk7 (fun _ h9 => h9) rfl dX4_next_76 ?_
        refine lv_iconst (v := (nI 0)) hx hb dX4_next_79 (by decide) ?_
        refine cl_Sv (As := [.ref (h 4), .int (nI 0), .ref (h 1), .int (nI 0)]) (rest := []) (wc := [(h 4, .inl (cI, 667, .inl now)), (h 1, .inl (cI, 667, .inl ((tk now).2)))]) (wsN := fun (_ : Unit) => MW h cI (va_cpy now ((tk now).2) 0 0 667) past pasts bef now tex typed ati) F hK hA hP hD hS (c_X4_copies (by omega) (by omega) (by omega) (by omega)) (va_cwS 4 hts gX4_next_X4_copies rfl rfl rfl (by decide +kernel) ⟨Nat.le_of_ble_eq_true rfl, Nat.le_of_ble_eq_true rfl⟩) [4, 1] [0, 2, 3, 5] [0, 5, 1, 2, 4, 3] ([(h 0, .inr (4, [.ref (h 1), .ref (h 2), .int pasts, .ref (h 3), .ref (h 4), .ref (h 5), .int typed, .int ati])), (h 2, .inl (cI, 3335, .inl past)), (h 3, .inl (cI, 667, .inl bef)), (h 5, .inl (cI, 80, .inl tex))]) rfl rfl (fun _ => rfl) (by decide) (by decide) rfl hl.1 rfl (Nat.le_of_ble_eq_true rfl) ⟨Nat.zero_le _, Nat.zero_le _⟩ dX4_next_80 (fun _ H locs hw_11 hP hD hS => ?_)
        try dsimp only at hw_11 hP hD
        have hP := vc_arr (g := now) (wsN := MW h cI now past pasts bef now tex typed ati) 1 rfl (fun j hj => sb_cpy0 hj) rfl hP
        have hD := vc_arrD (g := now) (wsN := MW h cI now past pasts bef now tex typed ati) 1 rfl rfl hD
        refine lv_iload_n hx hb dX4_next_83 rfl (lv_at hl 2 rfl) ?_
        refine lv_if_ge (tgt := 92) hx hb dX4_next_84 (by decide) (fun c84 => ?_) (fun c84 => ?_)
        · skip
          exfalso
          exact absurd c84 (by decide)
        · skip
          refine lv_bipush (v := (-9)) hx hb dX4_next_87 (by decide) ?_
          refine lv_goto (tgt := 120) hx hb dX4_next_89 (by decide) ?_
          exact RETN _ _ (-9) now _ _ dX4_next_120 (rfl) (by first | rw [nxA_0 (by omega) ho] | (rw [nxA_j (by omega) ho]; first | rw [if_pos c93] | (rw [if_neg c93]; first | rw [if_pos c102] | (rw [if_neg c102]; first | rw [if_pos (by omega)] | rw [if_neg (by omega)])))) hP hD hS
      · skip
        replace c60 : ¬ ((tot now (nI 2)) ≤ (tot (tk now).2 (nI 2))) := by rw [nI_leI (by omega) (by omega)] at c60; exact c60
        refine lv_iconst (v := (nI 1)) hx hb dX4_next_63 (by decide) ?_
        refine lv_goto (tgt := 68) hx hb dX4_next_64 (by decide) ?_
        refine lv_istore (lv' := [(5, .int (nI 1)), (4, .int ((((tk now).2) 666) - (now 666))), (3, .int (-3)), (2, .int (nI (tot now (nI 2)))), (0, .ref (h 0)), (1, .int (nI j))]) hx hb dX4_next_68 hl (by decide) rfl (fun ls hl => ?_)
        refine lv_aload_n hx hb dX4_next_70 rfl (lv_at hl 4 rfl) ?_
        refine va_get (D := D) (ci := 4) (v := .ref (h 4)) (C := RX4) (T := TX4) (N := 8) hx hb hts hI4 hown hK.1 hP 0 rfl rfl 4 (by decide) lk19 (fun _ h9 => h9) rfl dX4_next_71 ?_
        refine lv_iconst (v := (nI 0)) hx hb dX4_next_74 (by decide) ?_
        refine lv_aload_n hx hb dX4_next_75 rfl (lv_at hl 4 rfl) ?_
        refine va_get (D := D) (ci := 4) (v := .ref (h 1)) (C := RX4) (T := TX4) (N := 8) hx hb hts hI4 hown hK.1 hP 0 rfl rfl 0 (by decide) lk7 (fun _ h9 => h9) rfl dX4_next_76 ?_
        refine lv_iconst (v := (nI 0)) hx hb dX4_next_79 (by decide) ?_
        refine cl_Sv (As := [.ref (h 4), .int (nI 0), .ref (h 1), .int (nI 0)]) (rest := []) (wc := [(h 4, .inl (cI, 667, .inl now)), (h 1, .inl (cI, 667, .inl ((tk now).2)))]) (wsN := fun (_ : Unit) => MW h cI (va_cpy now ((tk now).2) 0 0 667) past pasts bef now tex typed ati) F hK hA hP hD hS (c_X4_copies (by omega) (by omega) (by omega) (by omega)) (va_cwS 4 hts gX4_next_X4_copies rfl rfl rfl (by decide +kernel) ⟨Nat.le_of_ble_eq_true rfl, Nat.le_of_ble_eq_true rfl⟩) [4, 1] [0, 2, 3, 5] [0, 5, 1, 2, 4, 3] ([(h 0, .inr (4, [.ref (h 1), .ref (h 2), .int pasts, .ref (h 3), .ref (h 4), .ref (h 5), .int typed, .int ati])), (h 2, .inl (cI, 3335, .inl past)), (h 3, .inl (cI, 667, .inl bef)), (h 5, .inl (cI, 80, .inl tex))]) rfl rfl (fun _ => rfl) (by decide) (by decide) rfl hl.1 rfl (Nat.le_of_ble_eq_true rfl) ⟨Nat.zero_le _, Nat.zero_le _⟩ dX4_next_80 (fun _ H locs hw_13 hP hD hS => ?_)
        try dsimp only at hw_13 hP hD
        have hP := vc_arr (g := now) (wsN := MW h cI now past pasts bef now tex typed ati) 1 rfl (fun j hj => sb_cpy0 hj) rfl hP
        have hD := vc_arrD (g := now) (wsN := MW h cI now past pasts bef now tex typed ati) 1 rfl rfl hD
        refine lv_iload_n hx hb dX4_next_83 rfl (lv_at hl 2 rfl) ?_
        refine lv_if_ge (tgt := 92) hx hb dX4_next_84 (by decide) (fun c84 => ?_) (fun c84 => ?_)
        · skip
          exfalso
          exact absurd c84 (by decide)
        · skip
          refine lv_bipush (v := (-9)) hx hb dX4_next_87 (by decide) ?_
          refine lv_goto (tgt := 120) hx hb dX4_next_89 (by decide) ?_
          exact RETN _ _ (-9) now _ _ dX4_next_120 (rfl) (by first | rw [nxA_0 (by omega) ho] | (rw [nxA_j (by omega) ho]; first | rw [if_pos c93] | (rw [if_neg c93]; first | rw [if_pos c102] | (rw [if_neg c102]; first | rw [if_pos (by omega)] | rw [if_neg (by omega)])))) hP hD hS
    | some sl =>
      obtain rfl : r1 = nI sl := by rw [hr1, ho]; rfl
      have hsl := tk_lt ho
      refine lv_istore_n (lv' := [(3, .int (nI sl)), (2, .int (nI (tot now (nI 2)))), (0, .ref (h 0)), (1, .int (nI j))]) hx hb dX4_next_34 rfl hl (by decide) rfl (fun ls hl => ?_)
      refine lv_aload_n hx hb dX4_next_35 rfl (lv_at hl 2 rfl) ?_
      refine va_get (D := D) (ci := 4) (v := .ref (h 1)) (C := RX4) (T := TX4) (N := 8) hx hb hts hI4 hown hK.1 hP 0 rfl rfl 0 (by decide) lk7 (fun _ h9 => h9) rfl dX4_next_36 ?_
      refine lv_sipush (v := (nI 666)) hx hb dX4_next_39 (by decide) ?_
      refine n_iald hx hb hK hP 1 0 rfl rfl (by decide) (by omega) dX4_next_42 ?_
      refine lv_aload_n hx hb dX4_next_43 rfl (lv_at hl 2 rfl) ?_
      refine va_get (D := D) (ci := 4) (v := .ref (h 4)) (C := RX4) (T := TX4) (N := 8) hx hb hts hI4 hown hK.1 hP 0 rfl rfl 4 (by decide) lk19 (fun _ h9 => h9) rfl dX4_next_44 ?_
      refine lv_sipush (v := (nI 666)) hx hb dX4_next_47 (by decide) ?_
      refine n_iald hx hb hK hP 4 0 rfl rfl (by decide) (by omega) dX4_next_50 ?_
      refine lv_isub hx hb dX4_next_51 ?_
      refine lv_istore (lv' := [(4, .int ((((tk now).2) 666) - (now 666))), (3, .int (nI sl)), (2, .int (nI (tot now (nI 2)))), (0, .ref (h 0)), (1, .int (nI j))]) hx hb dX4_next_52 hl (by decide) rfl (fun ls hl => ?_)
      refine lv_aload_n hx hb dX4_next_54 rfl (lv_at hl 3 rfl) ?_
      refine lv_iconst (v := (nI 2)) hx hb dX4_next_55 (by decide) ?_
      have hto2 := tot_le (tk now).2 (nI 2) 10 (by decide)
      replace hto2 : tot (tk now).2 (nI 2) ≤ 320 := hto2
      refine cl_Vi (b := (h 0)) (As := [.int (nI 2)]) (rest := []) (wc := MW h cI ((tk now).2) past pasts bef now tex typed ati) (wsN := fun (_ : Unit) => MW h cI ((tk now).2) past pasts bef now tex typed ati) F hK hA hP hD hS (c_X4_inAll) (cwV 1 hts gX4_next_X4_inAll rfl rfl rfl (by decide +kernel) ⟨Nat.le_of_ble_eq_true rfl, Nat.le_of_ble_eq_true rfl⟩) [0, 1, 2, 3, 4, 5] [] [0, 1, 2, 3, 4, 5] ([]) rfl rfl (fun _ => rfl) (by decide) (by decide) 0 rfl rfl rfl hl.1 rfl (Nat.le_of_ble_eq_true rfl) ⟨Nat.zero_le _, Nat.zero_le _⟩ dX4_next_56 (fun r_16 _ H locs hw_15 hP hD hS => ?_)
      try dsimp only at hw_15 hP hD
      obtain rfl : r_16 = (nI (tot (tk now).2 (nI 2))) := hw_15
      refine lv_iload_n hx hb dX4_next_59 rfl (lv_at hl 2 rfl) ?_
      refine lv_icmp_ge (tgt := 67) hx hb dX4_next_60 (by decide) (fun c60 => ?_) (fun c60 => ?_)
      · skip
        replace c60 : (tot now (nI 2)) ≤ (tot (tk now).2 (nI 2)) := by rw [nI_leI (by omega) (by omega)] at c60; exact c60
        refine lv_iconst (v := (nI 0)) hx hb dX4_next_67 (by decide) ?_
        refine lv_istore (lv' := [(5, .int (nI 0)), (4, .int ((((tk now).2) 666) - (now 666))), (3, .int (nI sl)), (2, .int (nI (tot now (nI 2)))), (0, .ref (h 0)), (1, .int (nI j))]) hx hb dX4_next_68 hl (by decide) rfl (fun ls hl => ?_)
        refine lv_aload_n hx hb dX4_next_70 rfl (lv_at hl 4 rfl) ?_
        refine va_get (D := D) (ci := 4) (v := .ref (h 4)) (C := RX4) (T := TX4) (N := 8) hx hb hts hI4 hown hK.1 hP 0 rfl rfl 4 (by decide) lk19 (fun _ h9 => h9) rfl dX4_next_71 ?_
        refine lv_iconst (v := (nI 0)) hx hb dX4_next_74 (by decide) ?_
        refine lv_aload_n hx hb dX4_next_75 rfl (lv_at hl 4 rfl) ?_
        refine va_get (D := D) (ci := 4) (v := .ref (h 1)) (C := RX4) (T := TX4) (N := 8) hx hb hts hI4 hown hK.1 hP 0 rfl rfl 0 (by decide) lk7 (fun _ h9 => h9) rfl dX4_next_76 ?_
        refine lv_iconst (v := (nI 0)) hx hb dX4_next_79 (by decide) ?_
        refine cl_Sv (As := [.ref (h 4), .int (nI 0), .ref (h 1), .int (nI 0)]) (rest := []) (wc := [(h 4, .inl (cI, 667, .inl now)), (h 1, .inl (cI, 667, .inl ((tk now).2)))]) (wsN := fun (_ : Unit) => MW h cI (va_cpy now ((tk now).2) 0 0 667) past pasts bef now tex typed ati) F hK hA hP hD hS (c_X4_copies (by omega) (by omega) (by omega) (by omega)) (va_cwS 4 hts gX4_next_X4_copies rfl rfl rfl (by decide +kernel) ⟨Nat.le_of_ble_eq_true rfl, Nat.le_of_ble_eq_true rfl⟩) [4, 1] [0, 2, 3, 5] [0, 5, 1, 2, 4, 3] ([(h 0, .inr (4, [.ref (h 1), .ref (h 2), .int pasts, .ref (h 3), .ref (h 4), .ref (h 5), .int typed, .int ati])), (h 2, .inl (cI, 3335, .inl past)), (h 3, .inl (cI, 667, .inl bef)), (h 5, .inl (cI, 80, .inl tex))]) rfl rfl (fun _ => rfl) (by decide) (by decide) rfl hl.1 rfl (Nat.le_of_ble_eq_true rfl) ⟨Nat.zero_le _, Nat.zero_le _⟩ dX4_next_80 (fun _ H locs hw_17 hP hD hS => ?_)
        try dsimp only at hw_17 hP hD
        have hP := vc_arr (g := now) (wsN := MW h cI now past pasts bef now tex typed ati) 1 rfl (fun j hj => sb_cpy0 hj) rfl hP
        have hD := vc_arrD (g := now) (wsN := MW h cI now past pasts bef now tex typed ati) 1 rfl rfl hD
        refine lv_iload_n hx hb dX4_next_83 rfl (lv_at hl 2 rfl) ?_
        refine lv_if_ge (tgt := 92) hx hb dX4_next_84 (by decide) (fun c84 => ?_) (fun c84 => ?_)
        · skip
          replace c84 : 0 ≤ sl := by rw [show (0 : Int32) = nI 0 from rfl, nI_leI (by omega) (by omega)] at c84; exact c84
          refine lv_iload_n hx hb dX4_next_92 rfl (lv_at hl 5 rfl) ?_
          refine lv_if_ne (tgt := 100) hx hb dX4_next_93 (by decide) (fun c93 => ?_) (fun c93 => ?_)
          · skip
            replace c93 : ¬ j = 0 := by rw [show (0 : Int32) = nI 0 from rfl, nI_eq (by omega) (by omega)] at c93; exact c93
            refine lv_iload_n hx hb dX4_next_100 rfl (lv_at hl 5 rfl) ?_
            refine lv_iconst (v := (nI 1)) hx hb dX4_next_101 (by decide) ?_
            refine lv_icmp_ne (tgt := 110) hx hb dX4_next_102 (by decide) (fun c102 => ?_) (fun c102 => ?_)
            · skip
              replace c102 : ¬ j = 1 := by rw [nI_eq (by omega) (by omega)] at c102; exact c102
              refine lv_iload hx hb dX4_next_110 (lv_at hl 0 rfl) ?_
              refine lv_if_eq (tgt := 119) hx hb dX4_next_112 (by decide) (fun c112 => ?_) (fun c112 => ?_)
              · skip
                refine lv_iconst (v := (nI 0)) hx hb dX4_next_119 (by decide) ?_
                exact RETN _ _ (nI 0) now _ _ dX4_next_120 (rfl) (by first | rw [nxA_0 (by omega) ho] | (rw [nxA_j (by omega) ho]; first | rw [if_pos c93] | (rw [if_neg c93]; first | rw [if_pos c102] | (rw [if_neg c102]; first | rw [if_pos (by omega)] | rw [if_neg (by omega)])))) hP hD hS
              · skip
                exfalso
                exact absurd c112 (by decide)
            · skip
              replace c102 : j = 1 := by rw [nI_eq (by omega) (by omega)] at c102; exact c102
              refine lv_iload hx hb dX4_next_105 (lv_at hl 1 rfl) ?_
              refine lv_goto (tgt := 120) hx hb dX4_next_107 (by decide) ?_
              exact RETN _ _ ((((tk now).2) 666) - (now 666)) now _ _ dX4_next_120 (rfl) (by first | rw [nxA_0 (by omega) ho] | (rw [nxA_j (by omega) ho]; first | rw [if_pos c93] | (rw [if_neg c93]; first | rw [if_pos c102] | (rw [if_neg c102]; first | rw [if_pos (by omega)] | rw [if_neg (by omega)])))) hP hD hS
          · skip
            replace c93 : j = 0 := by rw [show (0 : Int32) = nI 0 from rfl, nI_eq (by omega) (by omega)] at c93; exact c93
            refine lv_iload_n hx hb dX4_next_96 rfl (lv_at hl 2 rfl) ?_
            refine lv_goto (tgt := 120) hx hb dX4_next_97 (by decide) ?_
            exact RETN _ _ (nI sl) now _ _ dX4_next_120 (rfl) (by first | rw [nxA_0 (by omega) ho] | (rw [nxA_j (by omega) ho]; first | rw [if_pos c93] | (rw [if_neg c93]; first | rw [if_pos c102] | (rw [if_neg c102]; first | rw [if_pos (by omega)] | rw [if_neg (by omega)])))) hP hD hS
        · skip
          replace c84 : ¬ (0 ≤ sl) := by rw [show (0 : Int32) = nI 0 from rfl, nI_leI (by omega) (by omega)] at c84; exact c84
          exfalso
          omega
      · skip
        replace c60 : ¬ ((tot now (nI 2)) ≤ (tot (tk now).2 (nI 2))) := by rw [nI_leI (by omega) (by omega)] at c60; exact c60
        refine lv_iconst (v := (nI 1)) hx hb dX4_next_63 (by decide) ?_
        refine lv_goto (tgt := 68) hx hb dX4_next_64 (by decide) ?_
        refine lv_istore (lv' := [(5, .int (nI 1)), (4, .int ((((tk now).2) 666) - (now 666))), (3, .int (nI sl)), (2, .int (nI (tot now (nI 2)))), (0, .ref (h 0)), (1, .int (nI j))]) hx hb dX4_next_68 hl (by decide) rfl (fun ls hl => ?_)
        refine lv_aload_n hx hb dX4_next_70 rfl (lv_at hl 4 rfl) ?_
        refine va_get (D := D) (ci := 4) (v := .ref (h 4)) (C := RX4) (T := TX4) (N := 8) hx hb hts hI4 hown hK.1 hP 0 rfl rfl 4 (by decide) lk19 (fun _ h9 => h9) rfl dX4_next_71 ?_
        refine lv_iconst (v := (nI 0)) hx hb dX4_next_74 (by decide) ?_
        refine lv_aload_n hx hb dX4_next_75 rfl (lv_at hl 4 rfl) ?_
        refine va_get (D := D) (ci := 4) (v := .ref (h 1)) (C := RX4) (T := TX4) (N := 8) hx hb hts hI4 hown hK.1 hP 0 rfl rfl 0 (by decide) lk7 (fun _ h9 => h9) rfl dX4_next_76 ?_
        refine lv_iconst (v := (nI 0)) hx hb dX4_next_79 (by decide) ?_
        refine cl_Sv (As := [.ref (h 4), .int (nI 0), .ref (h 1), .int (nI 0)]) (rest := []) (wc := [(h 4, .inl (cI, 667, .inl now)), (h 1, .inl (cI, 667, .inl ((tk now).2)))]) (wsN := fun (_ : Unit) => MW h cI (va_cpy now ((tk now).2) 0 0 667) past pasts bef now tex typed ati) F hK hA hP hD hS (c_X4_copies (by omega) (by omega) (by omega) (by omega)) (va_cwS 4 hts gX4_next_X4_copies rfl rfl rfl (by decide +kernel) ⟨Nat.le_of_ble_eq_true rfl, Nat.le_of_ble_eq_true rfl⟩) [4, 1] [0, 2, 3, 5] [0, 5, 1, 2, 4, 3] ([(h 0, .inr (4, [.ref (h 1), .ref (h 2), .int pasts, .ref (h 3), .ref (h 4), .ref (h 5), .int typed, .int ati])), (h 2, .inl (cI, 3335, .inl past)), (h 3, .inl (cI, 667, .inl bef)), (h 5, .inl (cI, 80, .inl tex))]) rfl rfl (fun _ => rfl) (by decide) (by decide) rfl hl.1 rfl (Nat.le_of_ble_eq_true rfl) ⟨Nat.zero_le _, Nat.zero_le _⟩ dX4_next_80 (fun _ H locs hw_19 hP hD hS => ?_)
        try dsimp only at hw_19 hP hD
        have hP := vc_arr (g := now) (wsN := MW h cI now past pasts bef now tex typed ati) 1 rfl (fun j hj => sb_cpy0 hj) rfl hP
        have hD := vc_arrD (g := now) (wsN := MW h cI now past pasts bef now tex typed ati) 1 rfl rfl hD
        refine lv_iload_n hx hb dX4_next_83 rfl (lv_at hl 2 rfl) ?_
        refine lv_if_ge (tgt := 92) hx hb dX4_next_84 (by decide) (fun c84 => ?_) (fun c84 => ?_)
        · skip
          replace c84 : 0 ≤ sl := by rw [show (0 : Int32) = nI 0 from rfl, nI_leI (by omega) (by omega)] at c84; exact c84
          refine lv_iload_n hx hb dX4_next_92 rfl (lv_at hl 5 rfl) ?_
          refine lv_if_ne (tgt := 100) hx hb dX4_next_93 (by decide) (fun c93 => ?_) (fun c93 => ?_)
          · skip
            replace c93 : ¬ j = 0 := by rw [show (0 : Int32) = nI 0 from rfl, nI_eq (by omega) (by omega)] at c93; exact c93
            refine lv_iload_n hx hb dX4_next_100 rfl (lv_at hl 5 rfl) ?_
            refine lv_iconst (v := (nI 1)) hx hb dX4_next_101 (by decide) ?_
            refine lv_icmp_ne (tgt := 110) hx hb dX4_next_102 (by decide) (fun c102 => ?_) (fun c102 => ?_)
            · skip
              replace c102 : ¬ j = 1 := by rw [nI_eq (by omega) (by omega)] at c102; exact c102
              refine lv_iload hx hb dX4_next_110 (lv_at hl 0 rfl) ?_
              refine lv_if_eq (tgt := 119) hx hb dX4_next_112 (by decide) (fun c112 => ?_) (fun c112 => ?_)
              · skip
                exfalso
                exact absurd c112 (by decide)
              · skip
                refine lv_iconst (v := (nI 1)) hx hb dX4_next_115 (by decide) ?_
                refine lv_goto (tgt := 120) hx hb dX4_next_116 (by decide) ?_
                exact RETN _ _ (nI 1) now _ _ dX4_next_120 (rfl) (by first | rw [nxA_0 (by omega) ho] | (rw [nxA_j (by omega) ho]; first | rw [if_pos c93] | (rw [if_neg c93]; first | rw [if_pos c102] | (rw [if_neg c102]; first | rw [if_pos (by omega)] | rw [if_neg (by omega)])))) hP hD hS
            · skip
              replace c102 : j = 1 := by rw [nI_eq (by omega) (by omega)] at c102; exact c102
              refine lv_iload hx hb dX4_next_105 (lv_at hl 1 rfl) ?_
              refine lv_goto (tgt := 120) hx hb dX4_next_107 (by decide) ?_
              exact RETN _ _ ((((tk now).2) 666) - (now 666)) now _ _ dX4_next_120 (rfl) (by first | rw [nxA_0 (by omega) ho] | (rw [nxA_j (by omega) ho]; first | rw [if_pos c93] | (rw [if_neg c93]; first | rw [if_pos c102] | (rw [if_neg c102]; first | rw [if_pos (by omega)] | rw [if_neg (by omega)])))) hP hD hS
          · skip
            replace c93 : j = 0 := by rw [show (0 : Int32) = nI 0 from rfl, nI_eq (by omega) (by omega)] at c93; exact c93
            refine lv_iload_n hx hb dX4_next_96 rfl (lv_at hl 2 rfl) ?_
            refine lv_goto (tgt := 120) hx hb dX4_next_97 (by decide) ?_
            exact RETN _ _ (nI sl) now _ _ dX4_next_120 (rfl) (by first | rw [nxA_0 (by omega) ho] | (rw [nxA_j (by omega) ho]; first | rw [if_pos c93] | (rw [if_neg c93]; first | rw [if_pos c102] | (rw [if_neg c102]; first | rw [if_pos (by omega)] | rw [if_neg (by omega)])))) hP hD hS
        · skip
          replace c84 : ¬ (0 ≤ sl) := by rw [show (0 : Int32) = nI 0 from rfl, nI_leI (by omega) (by omega)] at c84; exact c84
          exfalso
          omega
  · skip
    replace c6 : (bI (inB v (nI 0) (nI 2))) = nI 0 := c6
    refine lv_iconst (v := (-1)) hx hb dX4_next_9 (by decide) ?_
    exact RETN _ _ (-1) tri _ _ dX4_next_10 (rfl) (by rw [nxA_n (bI_cf c6)]) hP hD hS
set_option maxHeartbeats 4000000 in
set_option maxRecDepth 100000 in
theorem c_X4_runAt {l : Launch} {D : va_G} {cI cG cC cR : ClassId} {h : Nat → Nat} {now past bef tri tex : Nat → Int32} {pasts typed ati : Int32} {v : Int32} : CtI l yX4_runAt wsX4_runAt { frames := 1, cells := 0, slots := 0, locals := 23 } D (TY cI cG cC cR) [.ref (h 0), .int v] (MW h cI now past pasts bef tri tex typed ati) (fun (_ : Unit) => MW h cI now past pasts bef tri tex typed ati) (fun (r : Int32) (_ : Unit) => r = raA now v) := by
  refine CtI.of (cc := cX4_runAt) (maxL := 2) (ty := .int) (by decide) rfl (Nat.le_of_ble_eq_true rfl) ?_
  intro P0 e0 s0 m0 a0 b0 t0 c0 A0 Q0 ls F hK hP hD hA RETN hl
  obtain ⟨hx, hb, hml, hown, hts⟩ := id F
  have hS : va_S A0 s0.heap s0.heap [] := va_S.rf
  have hl : lv_has ls 2 [(0, .ref (h 0)), (1, .int v)] := hl
  refine lv_iload_n hx hb dX4_runAt_0 rfl (lv_at hl 1 rfl) ?_
  refine lv_iconst (v := (nI 1)) hx hb dX4_runAt_1 (by decide) ?_
  refine lv_bipush (v := (nI 64)) hx hb dX4_runAt_2 (by decide) ?_
  refine cl_S0 (As := [.int v, .int (nI 1), .int (nI 64)]) (rest := []) F hK hA hP hD hS (c_X4_in) (va_cwS 3 hts gX4_runAt_X4_in rfl rfl rfl (by decide +kernel) ⟨Nat.le_of_ble_eq_true rfl, Nat.le_of_ble_eq_true rfl⟩) rfl hl.1 rfl (Nat.le_of_ble_eq_true rfl) ⟨Nat.zero_le _, Nat.zero_le _⟩ dX4_runAt_4 (fun r_1 H locs hw_2 hP hS => ?_)
  try dsimp only at hw_2
  obtain rfl : r_1 = (bI (inB v (nI 1) (nI 64))) := hw_2
  refine lv_if_eq (tgt := 18) hx hb dX4_runAt_7 (by decide) (fun c7 => ?_) (fun c7 => ?_)
  · skip
    replace c7 : (bI (inB v (nI 1) (nI 64))) = nI 0 := c7
    refine lv_iconst (v := (-1)) hx hb dX4_runAt_18 (by decide) ?_
    exact RETN _ _ (-1) () _ _ dX4_runAt_19 (rfl) (by first | (unfold raA; rw [bI_cf c7]; rfl) | (unfold raA; rw [bI_ct c7, if_pos rfl, nI_clamp (by omega)])) hP hD hS
  · skip
    replace c7 : ¬ (bI (inB v (nI 1) (nI 64))) = nI 0 := c7
    obtain ⟨m, hlo_m, hhi_m, rfl⟩ := inB_nat (by omega) (by omega) (bI_ct c7)
    refine lv_aload_n hx hb dX4_runAt_10 rfl (lv_at hl 0 rfl) ?_
    refine lv_iload_n hx hb dX4_runAt_11 rfl (lv_at hl 1 rfl) ?_
    refine cl_Vi (b := (h 0)) (As := [.int (nI m)]) (rest := []) (wc := MW h cI now past pasts bef tri tex typed ati) (wsN := fun (_ : Unit) => MW h cI now past pasts bef tri tex typed ati) F hK hA hP hD hS (c_X4_runFrom (by omega) (by omega)) (cwV 1 hts gX4_runAt_X4_runFrom rfl rfl rfl (by decide +kernel) ⟨Nat.le_of_ble_eq_true rfl, Nat.le_of_ble_eq_true rfl⟩) [0, 1, 2, 3, 4, 5] [] [0, 1, 2, 3, 4, 5] ([]) rfl rfl (fun _ => rfl) (by decide) (by decide) 0 rfl rfl rfl hl.1 rfl (Nat.le_of_ble_eq_true rfl) ⟨Nat.zero_le _, Nat.zero_le _⟩ dX4_runAt_12 (fun r_4 _ H locs hw_3 hP hD hS => ?_)
    try dsimp only at hw_3 hP hD
    obtain rfl : r_4 = (oI (rn now m 320 0 0)) := hw_3
    refine lv_goto (tgt := 19) hx hb dX4_runAt_15 (by decide) ?_
    exact RETN _ _ (oI (rn now m 320 0 0)) () _ _ dX4_runAt_19 (rfl) (by first | (unfold raA; rw [bI_cf c7]; rfl) | (unfold raA; rw [bI_ct c7, if_pos rfl, nI_clamp (by omega)])) hP hD hS
set_option maxHeartbeats 4000000 in
set_option maxRecDepth 100000 in
theorem c_X4_placeFor {l : Launch} {D : va_G} {cI cG cC cR : ClassId} {h : Nat → Nat} {now past bef tri tex : Nat → Int32} {pasts typed ati : Int32} {v : Int32} : CtI l yX4_placeFor wsX4_placeFor { frames := 1, cells := 0, slots := 0, locals := 24 } D (TY cI cG cC cR) [.ref (h 0), .int v] (MW h cI now past pasts bef tri tex typed ati) (fun (_ : Unit) => MW h cI now past pasts bef tri tex typed ati) (fun (r : Int32) (_ : Unit) => r = pfA now v) := by
  refine CtI.of (cc := cX4_placeFor) (maxL := 2) (ty := .int) (by decide) rfl (Nat.le_of_ble_eq_true rfl) ?_
  intro P0 e0 s0 m0 a0 b0 t0 c0 A0 Q0 ls F hK hP hD hA RETN hl
  obtain ⟨hx, hb, hml, hown, hts⟩ := id F
  have hS : va_S A0 s0.heap s0.heap [] := va_S.rf
  have hl : lv_has ls 2 [(0, .ref (h 0)), (1, .int v)] := hl
  refine lv_iload_n hx hb dX4_placeFor_0 rfl (lv_at hl 1 rfl) ?_
  refine cl_S0 (As := [.int v]) (rest := []) F hK hA hP hD hS (c_X4_isSize) (va_cwS 1 hts gX4_placeFor_X4_isSize rfl rfl rfl (by decide +kernel) ⟨Nat.le_of_ble_eq_true rfl, Nat.le_of_ble_eq_true rfl⟩) rfl hl.1 rfl (Nat.le_of_ble_eq_true rfl) ⟨Nat.zero_le _, Nat.zero_le _⟩ dX4_placeFor_1 (fun r_1 H locs hw_2 hP hS => ?_)
  try dsimp only at hw_2
  obtain rfl : r_1 = (bI (szB v)) := hw_2
  refine lv_if_eq (tgt := 15) hx hb dX4_placeFor_4 (by decide) (fun c4 => ?_) (fun c4 => ?_)
  · skip
    replace c4 : (bI (szB v)) = nI 0 := c4
    refine lv_iconst (v := (-1)) hx hb dX4_placeFor_15 (by decide) ?_
    exact RETN _ _ (-1) () _ _ dX4_placeFor_16 (rfl) (by first | (unfold pfA; rw [bI_cf c4]; rfl) | (unfold pfA; rw [bI_ct c4, if_pos rfl, nI_clamp (by omega)])) hP hD hS
  · skip
    replace c4 : ¬ (bI (szB v)) = nI 0 := c4
    obtain ⟨z, rfl, hz⟩ := szB_t (bI_ct c4)
    have hzl := okz_le hz
    refine lv_aload_n hx hb dX4_placeFor_7 rfl (lv_at hl 0 rfl) ?_
    refine lv_iload_n hx hb dX4_placeFor_8 rfl (lv_at hl 1 rfl) ?_
    refine cl_Vi (b := (h 0)) (As := [.int (nI z)]) (rest := []) (wc := MW h cI now past pasts bef tri tex typed ati) (wsN := fun (_ : Unit) => MW h cI now past pasts bef tri tex typed ati) F hK hA hP hD hS (c_X4_placeOf hz) (cwV 1 hts gX4_placeFor_X4_placeOf rfl rfl rfl (by decide +kernel) ⟨Nat.le_of_ble_eq_true rfl, Nat.le_of_ble_eq_true rfl⟩) [0, 1, 2, 3, 4, 5] [] [0, 1, 2, 3, 4, 5] ([]) rfl rfl (fun _ => rfl) (by decide) (by decide) 0 rfl rfl rfl hl.1 rfl (Nat.le_of_ble_eq_true rfl) ⟨Nat.zero_le _, Nat.zero_le _⟩ dX4_placeFor_9 (fun r_4 _ H locs hw_3 hP hD hS => ?_)
    try dsimp only at hw_3 hP hD
    obtain rfl : r_4 = (oI (pl now z)) := hw_3
    refine lv_goto (tgt := 16) hx hb dX4_placeFor_12 (by decide) ?_
    exact RETN _ _ (oI (pl now z)) () _ _ dX4_placeFor_16 (rfl) (by first | (unfold pfA; rw [bI_cf c4]; rfl) | (unfold pfA; rw [bI_ct c4, if_pos rfl, nI_clamp (by omega)])) hP hD hS
set_option maxHeartbeats 4000000 in
set_option maxRecDepth 100000 in
theorem c_X4_takes {l : Launch} {D : va_G} {cI cG cC cR : ClassId} {h : Nat → Nat} {now past bef tri tex : Nat → Int32} {pasts typed ati : Int32} : CtI l yX4_takes wsX4_takes { frames := 5, cells := 0, slots := 0, locals := 113 } D (TY cI cG cC cR) [.ref (h 0)] (MW h cI now past pasts bef tri tex typed ati) (fun (_ : Unit) => MW h cI now past pasts bef now tex typed ati) (fun (r : Int32) (_ : Unit) => r = nI (reach now)) := by
  refine CtI.of (cc := cX4_takes) (maxL := 2) (ty := .int) (by decide) rfl (Nat.le_of_ble_eq_true rfl) ?_
  intro P0 e0 s0 m0 a0 b0 t0 c0 A0 Q0 ls F hK hP hD hA RETN hl
  obtain ⟨hx, hb, hml, hown, hts⟩ := id F
  have hS : va_S A0 s0.heap s0.heap [] := va_S.rf
  have hl : lv_has ls 2 [(0, .ref (h 0))] := hl
  have lk19 := hts (.fieldLink RX4 19 "SlotMapsModel" "trial" "[I") (by decide +kernel)
  have lk7 := hts (.fieldLink RX4 7 "SlotMapsModel" "now" "[I") (by decide +kernel)
  have hI4 : ∀ w ∈ u_ws RX4 TX4 8, w ∈ wsX4_takes := by decide +kernel
  refine lv_aload_n hx hb dX4_takes_0 rfl (lv_at hl 0 rfl) ?_
  refine va_get (D := D) (ci := 4) (v := .ref (h 1)) (C := RX4) (T := TX4) (N := 8) hx hb hts hI4 hown hK.1 hP 0 rfl rfl 0 (by decide) lk7 (fun _ h9 => h9) rfl dX4_takes_1 ?_
  refine lv_iconst (v := (nI 0)) hx hb dX4_takes_4 (by decide) ?_
  refine lv_aload_n hx hb dX4_takes_5 rfl (lv_at hl 0 rfl) ?_
  refine va_get (D := D) (ci := 4) (v := .ref (h 4)) (C := RX4) (T := TX4) (N := 8) hx hb hts hI4 hown hK.1 hP 0 rfl rfl 4 (by decide) lk19 (fun _ h9 => h9) rfl dX4_takes_6 ?_
  refine lv_iconst (v := (nI 0)) hx hb dX4_takes_9 (by decide) ?_
  refine cl_Sv (As := [.ref (h 1), .int (nI 0), .ref (h 4), .int (nI 0)]) (rest := []) (wc := [(h 1, .inl (cI, 667, .inl now)), (h 4, .inl (cI, 667, .inl tri))]) (wsN := fun (_ : Unit) => MW h cI now past pasts bef (va_cpy now tri 0 0 667) tex typed ati) F hK hA hP hD hS (c_X4_copies (by omega) (by omega) (by omega) (by omega)) (va_cwS 4 hts gX4_takes_X4_copies rfl rfl rfl (by decide +kernel) ⟨Nat.le_of_ble_eq_true rfl, Nat.le_of_ble_eq_true rfl⟩) [1, 4] [0, 2, 3, 5] [0, 4, 1, 2, 5, 3] ([(h 0, .inr (4, [.ref (h 1), .ref (h 2), .int pasts, .ref (h 3), .ref (h 4), .ref (h 5), .int typed, .int ati])), (h 2, .inl (cI, 3335, .inl past)), (h 3, .inl (cI, 667, .inl bef)), (h 5, .inl (cI, 80, .inl tex))]) rfl rfl (fun _ => rfl) (by decide) (by decide) rfl hl.1 rfl (Nat.le_of_ble_eq_true rfl) ⟨Nat.zero_le _, Nat.zero_le _⟩ dX4_takes_10 (fun _ H locs hw_1 hP hD hS => ?_)
  try dsimp only at hw_1 hP hD
  have hP := vc_arr (g := now) (wsN := MW h cI now past pasts bef now tex typed ati) 4 rfl (fun j hj => sb_cpy0 hj) rfl hP
  have hD := vc_arrD (g := now) (wsN := MW h cI now past pasts bef now tex typed ati) 4 rfl rfl hD
  refine lv_iconst (v := (nI 0)) hx hb dX4_takes_13 (by decide) ?_
  refine lv_istore_n (lv' := [(1, .int (nI 0)), (0, .ref (h 0))]) hx hb dX4_takes_14 rfl hl (by decide) rfl (fun ls hl => ?_)
  have LP15 : ∀ (nn : Nat) (n : Nat) (g : Nat → Int32) (H : Heap) (locs : List Loc) (ls : Array Slot), n + reach g = reach now → reach g < nn → va_P D vwCl (MW h cI g past pasts bef now tex typed ati) H → va_D A0 (MW h cI g past pasts bef now tex typed ati) → va_S A0 s0.heap H locs → lv_has ls 2 [(1, .int (nI n)), (0, .ref (h 0))] → W P0 l e0 { frames := 5, cells := 0, slots := 0, locals := 113 } s0 m0 a0 b0 t0 c0 H locs 0 0 Q0 (F0 m0 15 ls []) := by
    intro nn
    induction nn with
    | zero => intro n g H locs ls hn hmu; exact absurd hmu (Nat.not_lt_zero _)
    | succ nn ih15 =>
      intro n g H locs ls hn hmu15 hP hD hS hl
      refine lv_aload_n hx hb dX4_takes_15 rfl (lv_at hl 1 rfl) ?_
      refine cl_Vi (b := (h 0)) (As := []) (rest := []) (wc := MW h cI g past pasts bef now tex typed ati) (wsN := fun (u1 : Nat → Int32) => MW h cI u1 past pasts bef now tex typed ati) F hK hA hP hD hS (c_X4_takes1) (cwV 0 hts gX4_takes_X4_takes1 rfl rfl rfl (by decide +kernel) ⟨Nat.le_of_ble_eq_true rfl, Nat.le_of_ble_eq_true rfl⟩) [0, 1, 2, 3, 4, 5] [] [0, 1, 2, 3, 4, 5] ([]) rfl rfl (fun _ => rfl) (by decide) (by decide) 0 rfl rfl rfl hl.1 rfl (Nat.le_of_ble_eq_true rfl) ⟨Nat.zero_le _, Nat.zero_le _⟩ dX4_takes_16 (fun r1 u1 H locs hw_3 hP hD hS => ?_)
      try dsimp only at hw_3 hP hD
      obtain ⟨hr1, rfl⟩ := hw_3
      have hP : va_P D vwCl (MW h cI ((tk g).2) past pasts bef now tex typed ati) H := hP
      have hD : va_D A0 (MW h cI ((tk g).2) past pasts bef now tex typed ati) := hD
      cases ho : (tk g).1 with
      | none =>
        obtain rfl : r1 = -3 := by rw [hr1, ho]; rfl
        have hre := tk_none ho
        refine lv_if_lt (tgt := 28) hx hb dX4_takes_19 (by decide) (fun c19 => ?_) (fun c19 => ?_)
        · skip
          refine lv_aload_n hx hb dX4_takes_28 rfl (lv_at hl 1 rfl) ?_
          refine va_get (D := D) (ci := 4) (v := .ref (h 4)) (C := RX4) (T := TX4) (N := 8) hx hb hts hI4 hown hK.1 hP 0 rfl rfl 4 (by decide) lk19 (fun _ h9 => h9) rfl dX4_takes_29 ?_
          refine lv_iconst (v := (nI 0)) hx hb dX4_takes_32 (by decide) ?_
          refine lv_aload_n hx hb dX4_takes_33 rfl (lv_at hl 1 rfl) ?_
          refine va_get (D := D) (ci := 4) (v := .ref (h 1)) (C := RX4) (T := TX4) (N := 8) hx hb hts hI4 hown hK.1 hP 0 rfl rfl 0 (by decide) lk7 (fun _ h9 => h9) rfl dX4_takes_34 ?_
          refine lv_iconst (v := (nI 0)) hx hb dX4_takes_37 (by decide) ?_
          refine cl_Sv (As := [.ref (h 4), .int (nI 0), .ref (h 1), .int (nI 0)]) (rest := []) (wc := [(h 4, .inl (cI, 667, .inl now)), (h 1, .inl (cI, 667, .inl ((tk g).2)))]) (wsN := fun (_ : Unit) => MW h cI (va_cpy now ((tk g).2) 0 0 667) past pasts bef now tex typed ati) F hK hA hP hD hS (c_X4_copies (by omega) (by omega) (by omega) (by omega)) (va_cwS 4 hts gX4_takes_X4_copies rfl rfl rfl (by decide +kernel) ⟨Nat.le_of_ble_eq_true rfl, Nat.le_of_ble_eq_true rfl⟩) [4, 1] [0, 2, 3, 5] [0, 5, 1, 2, 4, 3] ([(h 0, .inr (4, [.ref (h 1), .ref (h 2), .int pasts, .ref (h 3), .ref (h 4), .ref (h 5), .int typed, .int ati])), (h 2, .inl (cI, 3335, .inl past)), (h 3, .inl (cI, 667, .inl bef)), (h 5, .inl (cI, 80, .inl tex))]) rfl rfl (fun _ => rfl) (by decide) (by decide) rfl hl.1 rfl (Nat.le_of_ble_eq_true rfl) ⟨Nat.zero_le _, Nat.zero_le _⟩ dX4_takes_38 (fun _ H locs hw_5 hP hD hS => ?_)
          try dsimp only at hw_5 hP hD
          have hP := vc_arr (g := now) (wsN := MW h cI now past pasts bef now tex typed ati) 1 rfl (fun j hj => sb_cpy0 hj) rfl hP
          have hD := vc_arrD (g := now) (wsN := MW h cI now past pasts bef now tex typed ati) 1 rfl rfl hD
          refine lv_iload_n hx hb dX4_takes_41 rfl (lv_at hl 0 rfl) ?_
          exact RETN _ _ (nI n) () _ _ dX4_takes_42 (rfl) (by rw [← hn, hre, Nat.add_zero]) hP hD hS
        · skip
          exfalso
          exact absurd (by decide) c19
      | some sl =>
        obtain rfl : r1 = nI sl := by rw [hr1, ho]; rfl
        have hsl := tk_lt ho
        have hre := tk_some ho
        refine lv_if_lt (tgt := 28) hx hb dX4_takes_19 (by decide) (fun c19 => ?_) (fun c19 => ?_)
        · skip
          replace c19 : sl < 0 := by rw [show (0 : Int32) = nI 0 from rfl, nI_ltI (by omega) (by omega)] at c19; exact c19
          exfalso
          omega
        · skip
          replace c19 : ¬ (sl < 0) := by rw [show (0 : Int32) = nI 0 from rfl, nI_ltI (by omega) (by omega)] at c19; exact c19
          refine lv_iinc (v := (nI (n + 1))) (lv' := [(1, .int (nI (n + 1))), (0, .ref (h 0))]) hx hb dX4_takes_22 hl (k := 0) rfl (n_inc1 _) (by decide) rfl (fun ls hl => ?_)
          refine lv_goto (tgt := 15) hx hb dX4_takes_25 (by decide) ?_
          exact ih15 (n + 1) ((tk g).2) _ _ _ (by omega) (by omega) hP hD hS (lv_sub hl [0, 1] rfl)
  exact LP15 _ 0 now _ _ _ (Nat.zero_add _) (Nat.lt_succ_self _) hP hD hS (lv_sub hl [0, 1] rfl)
