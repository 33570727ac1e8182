/-! THE REFERENCE'S METHODS, by contract -/
/-- the cells of the reference -/
abbrev MW (h : Nat → Nat) (cI : ClassId) (now past : Nat → Int32) (pasts : Int32) (bef tri tex : Nat → Int32) (typed ati : Int32) : va_W :=
  [(h 0, .inr (4, [.ref (h 1), .ref (h 2), .int pasts, .ref (h 3), .ref (h 4), .ref (h 5), .int typed, .int ati])), (h 1, .inl (cI, 667, .inl now)), (h 2, .inl (cI, 3335, .inl past)), (h 3, .inl (cI, 667, .inl bef)), (h 4, .inl (cI, 667, .inl tri)), (h 5, .inl (cI, 80, .inl tex))]
theorem cpy_step {f g : Nat → Int32} {a b k : Nat} : upd (va_cpy f g a b k) (b + k) (f (a + k)) = va_cpy f g a b (k + 1) := by
  funext j
  unfold upd va_cpy
  by_cases e : j = b + k
  · rw [if_pos e, if_pos (by omega), e, show a + (b + k - b) = a + k by omega]
  · rw [if_neg e]
    by_cases e2 : b ≤ j ∧ j < b + k
    · rw [if_pos e2, if_pos (by omega)]
    · rw [if_neg e2, if_neg (by omega)]
theorem cpy_0 {f g : Nat → Int32} {a b : Nat} : g = va_cpy f g a b 0 := by
  funext j
  unfold va_cpy
  rw [if_neg (by omega)]
/-- the history with one state more -/
def psh (p : Nat → Int32) (k : Nat) (b : Nat → Int32) : Nat → Int32 := if k = 5 then va_cpy b (va_cpy p p 667 0 2668) 0 2668 667 else va_cpy b p 0 (667 * k) 667
def pn (k : Nat) : Nat := if k = 5 then 5 else k + 1
/-- what an action leaves of the slots and of the history: b before it, g behind it -/
def fnN (b g : Nat → Int32) (a : Int32) : Nat → Int32 := if a < 0 then b else g
def fnP (p : Nat → Int32) (k : Nat) (b : Nat → Int32) (a : Int32) : Nat → Int32 := if a < 0 then p else psh p k b
def fnK (k : Nat) (a : Int32) : Nat := if a < 0 then k else pn k
/-- one look more -/
def lkP (f : Nat → Int32) : Nat → Int32 := upd f 666 (f 666 + nI 1)
/-- the words are gone through -/
def gt : Nat → Nat → (Nat → Int32) → Option Nat × (Nat → Int32)
  | 0, _, f => (none, f)
  | n + 1, w, f => if f (640 + w) = nI 0 then (match fi (lkP f) w with
      | none => gt n (w + 1) (upd (lkP f) (640 + w) (nI 1))
      | some s => (some s, bc1 (lkP f) s (nI 1))) else gt n (w + 1) f
theorem gt_end {w : Nat} {g : Nat → Int32} (h : 10 ≤ w) : gt (10 - w) w g = (none, g) := by rw [show 10 - w = 0 by omega]; rfl
theorem gt_hid {w : Nat} {g : Nat → Int32} (h : w < 10) (c : ¬ g (640 + w) = nI 0) : gt (10 - w) w g = gt (10 - (w + 1)) (w + 1) g := by
  rw [show 10 - w = (10 - (w + 1)) + 1 by omega, gt, if_neg c]
theorem gt_full {w : Nat} {g : Nat → Int32} (h : w < 10) (c : g (640 + w) = nI 0) (ho : fi (lkP g) w = none) : gt (10 - w) w g = gt (10 - (w + 1)) (w + 1) (upd (lkP g) (640 + w) (nI 1)) := by
  rw [show 10 - w = (10 - (w + 1)) + 1 by omega, gt, if_pos c, ho]
theorem gt_found {w s : Nat} {g : Nat → Int32} (h : w < 10) (c : g (640 + w) = nI 0) (ho : fi (lkP g) w = some s) : gt (10 - w) w g = (some s, bc1 (lkP g) s (nI 1)) := by
  rw [show 10 - w = (10 - (w + 1)) + 1 by omega, gt, if_pos c, ho]
theorem fi_lt {f : Nat → Int32} {w s : Nat} (h : fi f w = some s) : 32 * w ≤ s ∧ s < 32 * w + 32 ∧ f s = nI 0 := by
  obtain ⟨h1, h2, h3, -⟩ := ls1_some h
  exact ⟨h1, h2, of_decide_eq_true h3⟩
theorem gt_lt : ∀ {n w : Nat} {f : Nat → Int32} {s : Nat}, (gt n w f).1 = some s → s < 32 * (w + n)
  | 0, _, _, _, h => by cases h
  | n + 1, w, f, s, h => by
    rw [gt] at h
    by_cases c : f (640 + w) = nI 0
    · rw [if_pos c] at h
      cases ho : fi (lkP f) w with
      | none =>
        rw [ho] at h
        have := gt_lt h
        omega
      | some s2 =>
        rw [ho] at h
        cases h
        have := fi_lt ho
        omega
    · rw [if_neg c] at h
      have := gt_lt h
      omega
theorem ne9 {s : Nat} (h : s < 1000) : ¬ nI s = -9 := fun e => by
  have := nI_pos (n := s) (by omega)
  rw [e] at this
  exact this (by decide)
theorem ne3 {s : Nat} (h : s < 1000) : ¬ nI s = -3 := fun e => by
  have := nI_pos (n := s) (by omega)
  rw [e] at this
  exact this (by decide)
theorem dor {p q r : Prop} [Decidable p] [Decidable q] [Decidable r] (h : p ↔ (q ∨ r)) : decide p = (decide q || decide r) := by
  rw [Bool.eq_iff_iff, Bool.or_eq_true, decide_eq_true_iff, decide_eq_true_iff, decide_eq_true_iff]
  exact h
theorem deq {p q : Prop} [Decidable p] [Decidable q] (h : p ↔ q) : decide p = decide q := by
  rw [Bool.eq_iff_iff, decide_eq_true_iff, decide_eq_true_iff]
  exact h
/-- how many words below w have lazy slots -/
def lzc (f : Nat → Int32) (w : Nat) : Nat := fb_ct (fun x => decide (0 < cw f x (nI 2))) w
/-- the words that are cleared -/
def selB (f : Nat → Int32) (n w : Nat) : Bool := decide (0 < cw f w (nI 2)) && decide (lzc f w < n)
/-- the slots that become free when n words are cleared, as far as the words below w, and the slots below sl of w -/
def clP (f : Nat → Int32) (n w sl : Nat) : Nat → Bool := fun j => (decide (j / 32 < w) && selB f n (j / 32) && decide (f j = nI 2)) || (decide (j / 32 = w) && decide (j < sl) && decide (f j = nI 2))
def clF (f : Nat → Int32) (n : Nat) : Nat → Int32 := bec f (clP f n 10 0) (fun _ => nI 0)
def clN (f : Nat → Int32) (n : Nat) : Nat := fb_sm (fun x => if selB f n x = true then cw f x (nI 2) else 0) 10
theorem clN_le (f : Nat → Int32) (n : Nat) : clN f n ≤ 320 := by
  refine Nat.le_trans (fb_sm_bound (c := 32) (fun k _ => ?_)) (by decide)
  have := cw_le f k (nI 2)
  split <;> omega
theorem clP_0 {f : Nat → Int32} {n j : Nat} (h : j < 320) : clP f n 0 0 j = false := by
  unfold clP
  simp
theorem cl_0 (f : Nat → Int32) (n : Nat) : f = bec f (clP f n 0 0) (fun _ => nI 0) := (bec_none (fun _ h => clP_0 h)).symm
theorem clP_in {f : Nat → Int32} {n w sl j : Nat} (h : j / 32 < w) : clP f n w sl j = (selB f n (j / 32) && decide (f j = nI 2)) := by
  unfold clP
  simp [h, show ¬ j / 32 = w by omega]
theorem clP_out {f : Nat → Int32} {n w sl j : Nat} (h : w < j / 32) : clP f n w sl j = false := by
  unfold clP
  simp [show ¬ j / 32 < w by omega, show ¬ j / 32 = w by omega]
theorem clP_at {f : Nat → Int32} {n w sl j : Nat} (h : j / 32 = w) : clP f n w sl j = (decide (j < sl) && decide (f j = nI 2)) := by
  unfold clP
  simp [h]
/-- behind the word's slots below sl, the slot sl is as it was -/
theorem cl_slot {f g : Nat → Int32} {n w sl : Nat} (hg : g = bec f (clP f n w sl) (fun _ => nI 0)) (h : sl < 320) (h2 : sl / 32 = w) : g sl = f sl := by
  rw [hg]
  exact bec_slot_n h (by rw [clP_at h2]; simp)
theorem cl_cw {f g : Nat → Int32} {n w : Nat} (hg : g = bec f (clP f n w (32 * w)) (fun _ => nI 0)) (h : w < 10) : cw g w (nI 2) = cw f w (nI 2) := by
  rw [hg]
  refine cw_cong (fun i hi => ?_)
  exact bec_slot_n (by omega) (by rw [clP_at (by omega)]; simp; omega)
theorem cl_skip {f g : Nat → Int32} {n w sl : Nat} (hg : g = bec f (clP f n w sl) (fun _ => nI 0)) (h : ¬ f sl = nI 2) : g = bec f (clP f n w (sl + 1)) (fun _ => nI 0) := by
  rw [hg]
  refine bec_cong (fun j hj => ?_) (fun _ _ _ => rfl)
  unfold clP
  congr 1
  by_cases e : j = sl
  · rw [e]; simp [h]
  · rw [deq (p := j < sl) (q := j < sl + 1) (by omega)]
theorem cl_take {f g : Nat → Int32} {n w sl : Nat} (hg : g = bec f (clP f n w sl) (fun _ => nI 0)) (hs : sl < 320) (hw : sl / 32 = w) (h : f sl = nI 2) : bc1 g sl (nI 0) = bec f (clP f n w (sl + 1)) (fun _ => nI 0) := by
  rw [hg]
  refine bec_add hs rfl (fun j hj => ?_)
  by_cases e : j = sl
  · rw [e, clP_at hw]; simp [h]
  · unfold clP
    rw [deq (p := j < sl) (q := j < sl + 1) (by omega)]
    simp [e]
theorem cw_pos {f : Nat → Int32} {w j : Nat} {k : Int32} (h : j / 32 = w) (hk : f j = k) : 0 < cw f w k := fb_ct_pos.mpr ⟨j % 32, by omega, by rw [show 32 * w + j % 32 = j by omega]; exact decide_eq_true hk⟩
theorem cl_next {f g : Nat → Int32} {n w : Nat} (hg : g = bec f (clP f n w (32 * w + 32)) (fun _ => nI 0)) (hl : lzc f w < n) : g = bec f (clP f n (w + 1) (32 * (w + 1))) (fun _ => nI 0) := by
  rw [hg]
  refine bec_cong (fun j hj => ?_) (fun _ _ _ => rfl)
  by_cases e : j / 32 < w
  · rw [clP_in e, clP_in (by omega)]
  · by_cases e2 : j / 32 = w
    · rw [clP_at e2, clP_in (by omega), e2]
      by_cases e3 : f j = nI 2
      · have := cw_pos e2 e3
        simp [e3, selB, this, hl]
        omega
      · simp [e3]
    · rw [clP_out (by omega)]
      by_cases e4 : j / 32 = w + 1
      · rw [clP_at e4]
        simp
        omega
      · rw [clP_out (by omega)]
theorem lzc_succ {f : Nat → Int32} {w : Nat} : lzc f (w + 1) = lzc f w + (if 0 < cw f w (nI 2) then 1 else 0) := by
  unfold lzc
  rw [fb_ct_succ]
  by_cases e : 0 < cw f w (nI 2) <;> simp [e]
def clS (f : Nat → Int32) (n w : Nat) : Nat := fb_sm (fun x => if selB f n x = true then cw f x (nI 2) else 0) w
theorem clS_succ {f : Nat → Int32} {n w : Nat} (hl : lzc f w < n) : clS f n (w + 1) = clS f n w + cw f w (nI 2) := by
  unfold clS
  rw [fb_sm_succ]
  by_cases e : 0 < cw f w (nI 2)
  · simp [selB, e, hl]
  · simp [selB, e]
    omega
theorem clS_le (f : Nat → Int32) (n w : Nat) (h : w ≤ 10) : clS f n w ≤ 320 := Nat.le_trans (fb_sm_bound (c := 32) (f := fun x => if selB f n x = true then cw f x (nI 2) else 0) (n := w) (fun k _ => by
    have := cw_le f k (nI 2)
    show (if selB f n k = true then cw f k (nI 2) else 0) ≤ 32
    split <;> omega)) (Nat.le_trans (Nat.mul_le_mul_right 32 h) (by decide))
theorem sel_off {f : Nat → Int32} {n w x : Nat} (h : n ≤ lzc f w) (hx : w ≤ x) : selB f n x = false := by
  have : lzc f w ≤ lzc f x := fb_ct_mono _ hx
  unfold selB
  simp
  omega
theorem cl_done {f g : Nat → Int32} {n w : Nat} (hg : g = bec f (clP f n w (32 * w)) (fun _ => nI 0)) (hw : w ≤ 10) (h : w = 10 ∨ n ≤ lzc f w) : g = clF f n := by
  rw [hg]
  refine bec_cong (fun j hj => ?_) (fun _ _ _ => rfl)
  rw [clP_in (w := 10) (by omega)]
  by_cases e : j / 32 < w
  · rw [clP_in e]
  · by_cases e2 : j / 32 = w
    · rw [clP_at e2]
      rcases h with h | h
      · omega
      · rw [sel_off h (by omega)]
        simp
        omega
    · rw [clP_out (by omega)]
      rcases h with h | h
      · omega
      · rw [sel_off h (by omega)]
        rfl
theorem clN_done {f : Nat → Int32} {n w : Nat} (hw : w ≤ 10) (h : w = 10 ∨ n ≤ lzc f w) : clS f n w = clN f n := by
  rcases h with h | h
  · rw [h]; rfl
  · obtain ⟨k, hk⟩ := Nat.le.dest hw
    unfold clS clN
    rw [← hk, fb_sm_split]
    have : fb_sm (fun x => if selB f n (w + x) = true then cw f (w + x) (nI 2) else 0) k = 0 := by
      have h2 := fb_sm_bound (f := fun x => if selB f n (w + x) = true then cw f (w + x) (nI 2) else 0) (c := 0) (n := k) (fun x _ => by rw [sel_off h (by omega)]; simp)
      omega
    omega
/-- one slot is taken -/
def tk (f : Nat → Int32) : Option Nat × (Nat → Int32) := match (gt 10 0 f).1 with
  | some s => (some s, (gt 10 0 f).2)
  | none => if 0 < clN (gt 10 0 f).2 10 then gt 10 0 (clF (gt 10 0 f).2 10) else (none, clF (gt 10 0 f).2 10)
theorem tk_1 {f : Nat → Int32} {s : Nat} (h : (gt 10 0 f).1 = some s) : tk f = (some s, (gt 10 0 f).2) := by unfold tk; rw [h]
theorem tk_2 {f : Nat → Int32} (h : (gt 10 0 f).1 = none) (h2 : 0 < clN (gt 10 0 f).2 10) : tk f = gt 10 0 (clF (gt 10 0 f).2 10) := by unfold tk; rw [h]; exact if_pos h2
theorem tk_3 {f : Nat → Int32} (h : (gt 10 0 f).1 = none) (h2 : ¬ 0 < clN (gt 10 0 f).2 10) : tk f = (none, clF (gt 10 0 f).2 10) := by unfold tk; rw [h]; exact if_neg h2
theorem tk_lt {f : Nat → Int32} {s : Nat} (h : (tk f).1 = some s) : s < 320 := by
  cases h1 : (gt 10 0 f).1 with
  | some s2 =>
    rw [tk_1 h1] at h
    cases h
    exact gt_lt h1
  | none =>
    by_cases h2 : 0 < clN (gt 10 0 f).2 10
    · rw [tk_2 h1 h2] at h
      exact gt_lt h
    · rw [tk_3 h1 h2] at h
      cases h
/-- all slots that are k -/
def tot (f : Nat → Int32) (k : Int32) : Nat := fb_sm (fun w => cw f w k) 10
theorem tot_le (f : Nat → Int32) (k : Int32) (w : Nat) (h : w ≤ 10) : fb_sm (fun w => cw f w k) w ≤ 320 := Nat.le_trans (Nat.le_trans (fb_sm_bound (c := 32) (fun x _ => cw_le f x k)) (Nat.mul_le_mul_right 32 h)) (by decide)
/-- the first run of m free slots, from sl on with a row of n free ones behind -/
def rn (f : Nat → Int32) (m : Nat) : Nat → Nat → Nat → Option Nat
  | 0, _, _ => none
  | k + 1, sl, n => if (if f sl = nI 0 then n + 1 else 0) = m then some (sl + 1 - m) else rn f m k (sl + 1) (if f sl = nI 0 then n + 1 else 0)
theorem rn_end {f : Nat → Int32} {m sl n : Nat} (h : 320 ≤ sl) : rn f m (320 - sl) sl n = none := by rw [show 320 - sl = 0 by omega]; rfl
theorem rn_yes {f : Nat → Int32} {m sl n n' : Nat} (h : sl < 320) (hn : (if f sl = nI 0 then n + 1 else 0) = n') (e : n' = m) : rn f m (320 - sl) sl n = some (sl + 1 - m) := by
  rw [show 320 - sl = (320 - (sl + 1)) + 1 by omega, rn, hn, if_pos e]
theorem rn_no {f : Nat → Int32} {m sl n n' : Nat} (h : sl < 320) (hn : (if f sl = nI 0 then n + 1 else 0) = n') (e : ¬ n' = m) : rn f m (320 - sl) sl n = rn f m (320 - (sl + 1)) (sl + 1) n' := by
  rw [show 320 - sl = (320 - (sl + 1)) + 1 by omega, rn, hn, if_neg e]
theorem le0_t {x : Int32} (h : 0 ≤ x) : ¬ x < 0 := by
  rw [Int32.lt_iff_toInt_lt]
  rw [Int32.le_iff_toInt_le] at h
  omega
theorem le0_f {x : Int32} (h : ¬ 0 ≤ x) : x < 0 := by
  rw [Int32.lt_iff_toInt_lt]
  rw [Int32.le_iff_toInt_le] at h
  omega
theorem psh_step {p g : Nat → Int32} {i : Nat} (hg : g = va_cpy p p 667 0 i) : upd g i (g (i + 667)) = va_cpy p p 667 0 (i + 1) := by
  rw [hg, pk_cpy_out (j := i + 667) (by omega), ← cpy_step, Nat.zero_add, Nat.add_comm i 667]
theorem subadd {a b : Nat} (h : b ≤ a + 1) : nI a - nI b + nI 1 = nI (a + 1 - b) := by
  rw [Int32.sub_eq_add_neg, Int32.add_assoc, Int32.add_comm (-nI b), ← Int32.add_assoc, nI_add, ← Int32.sub_eq_add_neg, pk_sub h]
/-! the reference's actions: each as an answer and the slots behind it -/
theorem fn_neg {b g p : Nat → Int32} {k : Nat} {a : Int32} (h : a < 0) : fnN b g a = b ∧ fnP p k b a = p ∧ fnK k a = k := ⟨if_pos h, if_pos h, if_pos h⟩
theorem fn_n1 (b g p : Nat → Int32) (k : Nat) : fnN b g (-1) = b ∧ fnP p k b (-1) = p ∧ fnK k (-1) = k := fn_neg (by decide)
theorem fn_n3 (b g p : Nat → Int32) (k : Nat) : fnN b g (-3) = b ∧ fnP p k b (-3) = p ∧ fnK k (-3) = k := fn_neg (by decide)
def tkA (f : Nat → Int32) : Int32 × (Nat → Int32) := (o3 (tk f).1, (tk f).2)
/-- the slots from p on, n of them -/
def rg (p n : Nat) : Nat → Bool := fun j => decide (p ≤ j) && decide (j < p + n)
theorem rg_0 (p j : Nat) : rg p 0 j = false := by unfold rg; simp <;> omega
theorem rg_s (p n j : Nat) : rg p (n + 1) j = (rg p n j || decide (j = p + n)) := by
  unfold rg
  rw [Bool.eq_iff_iff]
  simp only [Bool.and_eq_true, Bool.or_eq_true, decide_eq_true_eq]
  omega
theorem rg_iff {p n j : Nat} : rg p n j = true ↔ p ≤ j ∧ j < p + n := by unfold rg; simp
def trP (f : Nat → Int32) (s m n : Nat) : Nat → Int32 := bec (upd f 666 (f 666 + nI ((s + m - 1) / 32 + 1))) (rg s n) (fun _ => nI 1)
def trF (f : Nat → Int32) (s m : Nat) : Nat → Int32 := trP f s m m
theorem tr_0 (f : Nat → Int32) (s m : Nat) : upd f 666 (f 666 + nI ((s + m - 1) / 32 + 1)) = trP f s m 0 := (bec_none (fun j _ => rg_0 s j)).symm
theorem tr_s {f g : Nat → Int32} {s m n : Nat} (hg : g = trP f s m n) (h : s + n < 320) : bc1 g (s + n) (nI 1) = trP f s m (n + 1) := by
  rw [hg]
  exact bec_add h rfl (fun j _ => rg_s s n j)
def trA (f : Nat → Int32) (v : Int32) : Int32 × (Nat → Int32) := if inB v (nI 1) (nI 64) = true then (match rn f v.toNatClampNeg 320 0 0 with
  | some s => (nI s, trF f s v.toNatClampNeg)
  | none => (-3, f)) else (-1, f)
theorem trA_n {f : Nat → Int32} {v : Int32} (h : inB v (nI 1) (nI 64) = false) : trA f v = (-1, f) := by unfold trA; rw [h]; rfl
theorem trA_0 {f : Nat → Int32} {m : Nat} (h1 : 1 ≤ m) (h2 : m ≤ 64) (h : rn f m 320 0 0 = none) : trA f (nI m) = (-3, f) := by
  unfold trA
  rw [inB_of (by omega) h1 h2, nI_clamp (by omega), h]
  rfl
theorem trA_s {f : Nat → Int32} {m s : Nat} (h1 : 1 ≤ m) (h2 : m ≤ 64) (h : rn f m 320 0 0 = some s) : trA f (nI m) = (nI s, trF f s m) := by
  unfold trA
  rw [inB_of (by omega) h1 h2, nI_clamp (by omega), h]
  rfl
theorem rn_in {f : Nat → Int32} {m : Nat} (hm : 1 ≤ m) : ∀ {k sl n s : Nat}, n ≤ sl → n < m → (∀ j, sl - n ≤ j → j < sl → f j = nI 0) → rn f m k sl n = some s → s + m ≤ sl + k ∧ ∀ j, s ≤ j → j < s + m → f j = nI 0
  | 0, _, _, _, _, _, _, h => by cases h
  | k + 1, sl, n, s, hn, hnm, hf, h => by
    rw [rn] at h
    by_cases c : f sl = nI 0
    · rw [if_pos c] at h
      have hf2 : ∀ j, sl - n ≤ j → j < sl + 1 → f j = nI 0 := fun j h1 h2 => by
        by_cases e : j = sl
        · rw [e]; exact c
        · exact hf j h1 (by omega)
      by_cases e : n + 1 = m
      · rw [if_pos e] at h
        cases h
        exact ⟨by omega, fun j h1 h2 => hf2 j (by omega) (by omega)⟩
      · rw [if_neg e] at h
        obtain ⟨h3, h4⟩ := rn_in hm (by omega) (by omega) (fun j h1 h2 => hf2 j (by omega) h2) h
        exact ⟨by omega, h4⟩
    · rw [if_neg c, if_neg (by omega)] at h
      obtain ⟨h3, h4⟩ := rn_in hm (Nat.zero_le _) (by omega) (fun j h1 h2 => absurd h1 (by omega)) h
      exact ⟨by omega, h4⟩
theorem rn_ok {f : Nat → Int32} {m s : Nat} (hm : 1 ≤ m) (h : rn f m 320 0 0 = some s) : s + m ≤ 320 ∧ ∀ j, s ≤ j → j < s + m → f j = nI 0 := by
  obtain ⟨h1, h2⟩ := rn_in hm (Nat.le_refl _) (by omega) (fun j h1 h2 => absurd h2 (by omega)) h
  exact ⟨by omega, h2⟩
/-- slots given back -/
def gbP (f : Nat → Int32) (a n : Nat) : Nat → Bool := fun j => rg a n j && decide (f j = nI 1)
def gbv (f : Nat → Int32) : Nat → Int32 := fun j => if 0 < f (320 + j) then nI 3 else nI 2
def gbF (f : Nat → Int32) (a n : Nat) : Nat → Int32 := bec f (gbP f a n) (gbv f)
def gbN (f : Nat → Int32) (a n : Nat) : Nat := fb_ct (fun i => decide (f (a + i) = nI 1)) n
theorem gb_0 (f : Nat → Int32) (a : Nat) : f = gbF f a 0 := (bec_none (fun j _ => by unfold gbP; rw [rg_0]; rfl)).symm
theorem gb_slot {f g : Nat → Int32} {a n : Nat} (hg : g = gbF f a n) (h : a + n < 320) : g (a + n) = f (a + n) := by
  rw [hg]
  exact bec_slot_n h (by unfold gbP rg; simp)
theorem gb_own {f g : Nat → Int32} {a n j : Nat} (hg : g = gbF f a n) (h : j < 320) : g (320 + j) = f (320 + j) := by
  rw [hg]
  exact bec_own (by omega) (by omega)
theorem gb_skip {f g : Nat → Int32} {a n : Nat} (hg : g = gbF f a n) (h : ¬ f (a + n) = nI 1) : g = gbF f a (n + 1) := by
  rw [hg]
  refine bec_cong (fun j hj => ?_) (fun _ _ _ => rfl)
  unfold gbP
  rw [rg_s]
  by_cases e : j = a + n
  · rw [e]; simp [h]
  · simp [e]
theorem gb_take {f g : Nat → Int32} {a n : Nat} {x : Int32} (hg : g = gbF f a n) (hs : a + n < 320) (h : f (a + n) = nI 1) (hx : gbv f (a + n) = x) : bc1 g (a + n) x = gbF f a (n + 1) := by
  rw [hg]
  refine bec_add hs hx (fun j hj => ?_)
  unfold gbP
  rw [rg_s]
  by_cases e : j = a + n
  · rw [e]; simp [h]
  · simp [e]
def gbA (f : Nat → Int32) (a b : Int32) : Int32 × (Nat → Int32) := if (inB a (nI 0) (nI 319) && inB b a (nI 319)) = true then (if gbN f a.toNatClampNeg (b.toNatClampNeg + 1 - a.toNatClampNeg) = 0 then -2 else nI (gbN f a.toNatClampNeg (b.toNatClampNeg + 1 - a.toNatClampNeg)), gbF f a.toNatClampNeg (b.toNatClampNeg + 1 - a.toNatClampNeg)) else (-1, f)
theorem gbA_n {f : Nat → Int32} {a b : Int32} (h : inB a (nI 0) (nI 319) = false ∨ inB b a (nI 319) = false) : gbA f a b = (-1, f) := by
  unfold gbA
  rcases h with h | h <;> simp [h]
theorem gbA_s {f : Nat → Int32} {a n : Nat} (h : a + n ≤ 320) (h1 : 1 ≤ n) : gbA f (nI a) (nI (a + n - 1)) = (if gbN f a n = 0 then -2 else nI (gbN f a n), gbF f a n) := by
  unfold gbA
  rw [inB_of (by omega) (by omega) (by omega), inB_of (by omega) (by omega) (by omega), nI_clamp (by omega), nI_clamp (by omega), show a + n - 1 + 1 - a = n by omega]
  rfl
def clA (f : Nat → Int32) (v : Int32) : Int32 × (Nat → Int32) := if inB v (nI 1) (nI 10) = true then (nI (clN f v.toNatClampNeg), clF f v.toNatClampNeg) else (-1, f)
theorem clA_n {f : Nat → Int32} {v : Int32} (h : inB v (nI 1) (nI 10) = false) : clA f v = (-1, f) := by unfold clA; rw [h]; rfl
theorem clA_s {f : Nat → Int32} {n : Nat} (h1 : 1 ≤ n) (h2 : n ≤ 10) : clA f (nI n) = (nI (clN f n), clF f n) := by
  unfold clA
  rw [inB_of (by omega) h1 h2, nI_clamp (by omega)]
  rfl
/-- whether there is a block of this number -/
def isB (f : Nat → Int32) (b : Int32) : Bool := inB b (nI 0) (nI 7) && decide (0 < f (650 + 2 * b.toNatClampNeg + 1))
theorem isB_n {f : Nat → Int32} {b : Int32} (h : inB b (nI 0) (nI 7) = false) : isB f b = false := by unfold isB; rw [h]; rfl
theorem isB_k {f : Nat → Int32} {k : Nat} (h : k ≤ 7) : isB f (nI k) = decide (0 < f (650 + 2 * k + 1)) := by
  unfold isB
  rw [inB_of (by omega) (Nat.zero_le _) h, nI_clamp (by omega)]
  rfl
theorem isB_8 {f : Nat → Int32} : isB f (nI 8) = false := isB_n (by decide)
theorem isB_t {f : Nat → Int32} {b : Int32} (h : isB f b = true) : ∃ k, k ≤ 7 ∧ b = nI k ∧ 0 < f (650 + 2 * k + 1) := by
  have h2 := h
  unfold isB at h
  rw [Bool.and_eq_true] at h
  obtain ⟨k, -, h3, rfl⟩ := inB_nat (by omega) (by omega) h.1
  rw [isB_k h3] at h2
  exact ⟨k, h3, rfl, of_decide_eq_true h2⟩
def szB (v : Int32) : Bool := decide (v = nI 4) || decide (v = nI 8) || decide (v = nI 16) || decide (v = nI 32)
def okz (z : Nat) : Prop := z = 4 ∨ z = 8 ∨ z = 16 ∨ z = 32
theorem szB_t {v : Int32} (h : szB v = true) : ∃ z, v = nI z ∧ okz z := by
  unfold szB at h
  simp only [Bool.or_eq_true, decide_eq_true_eq] at h
  rcases h with ((h | h) | h) | h
  · exact ⟨4, h, Or.inl rfl⟩
  · exact ⟨8, h, Or.inr (Or.inl rfl)⟩
  · exact ⟨16, h, Or.inr (Or.inr (Or.inl rfl))⟩
  · exact ⟨32, h, Or.inr (Or.inr (Or.inr rfl))⟩
theorem szB_of {z : Nat} (h : okz z) : szB (nI z) = true := by rcases h with rfl | rfl | rfl | rfl <;> decide
theorem okz_le {z : Nat} (h : okz z) : 4 ≤ z ∧ z ≤ 32 := by rcases h with rfl | rfl | rfl | rfl <;> omega
/-- the first place of a block -/
def plq (f : Nat → Int32) (z q : Nat) : Bool := decide (fb_ct (fun i => fr f (z * q + i)) z = z)
def pl (f : Nat → Int32) (z : Nat) : Option Nat := (ls1 (plq f z) (320 / z) 0).map (fun q => z * q)
theorem pl_ok {f : Nat → Int32} {z p : Nat} (hz : okz z) (h : pl f z = some p) : p + z ≤ 320 ∧ p % z = 0 ∧ ∀ j, p ≤ j → j < p + z → f j = nI 0 := by
  unfold pl at h
  rw [Option.map_eq_some_iff] at h
  obtain ⟨q, h1, rfl⟩ := h
  obtain ⟨-, h2, h3, -⟩ := ls1_some h1
  have h4 := of_decide_eq_true h3
  rw [fb_ct_all] at h4
  refine ⟨by rcases hz with rfl | rfl | rfl | rfl <;> omega, Nat.mul_mod_right _ _, fun j h5 h6 => ?_⟩
  have h7 := h4 (j - z * q) (by omega)
  rw [show z * q + (j - z * q) = j by omega] at h7
  exact of_decide_eq_true h7
/-- the first number that no block has -/
def ub (f : Nat → Int32) : Option Nat := ls1 (fun k => decide (¬ 0 < f (650 + 2 * k + 1))) 8 0
def blk (f : Nat → Int32) (b p z : Nat) : Nat → Int32 := upd (upd f (650 + 2 * b) (nI p)) (650 + 2 * b + 1) (nI z)
/-- the owners of the slots from p on, n of them -/
def ow (f : Nat → Int32) (p n : Nat) (x : Int32) : Nat → Int32 := fun j => if 320 + p ≤ j ∧ j < 320 + p + n then x else f j
theorem ow_0 (f : Nat → Int32) (p : Nat) (x : Int32) : ow f p 0 x = f := by
  funext j
  unfold ow
  rw [if_neg (by omega)]
theorem ow_s (f : Nat → Int32) (p n : Nat) (x : Int32) : upd (ow f p n x) (320 + (p + n)) x = ow f p (n + 1) x := by
  funext j
  unfold ow upd
  by_cases e : j = 320 + (p + n)
  · rw [if_pos e, if_pos (by omega)]
  · rw [if_neg e]
    show (if 320 + p ≤ j ∧ j < 320 + p + n then x else f j) = _
    by_cases e2 : 320 + p ≤ j ∧ j < 320 + p + n
    · rw [if_pos e2, if_pos (by omega)]
    · rw [if_neg e2, if_neg (by omega)]
theorem upd_bec {f : Nat → Int32} {P : Nat → Bool} {v : Nat → Int32} {j : Nat} {x : Int32} (h : 320 ≤ j) (h2 : j < 640 ∨ 650 ≤ j) : upd (bec f P v) j x = bec (upd f j x) P v := by
  have hs : ∀ i, i < 320 → upd f j x i = f i := fun i hi => upd_n _ _ (by omega)
  have hc : ∀ i, i < 320 → chg f P v i = chg (upd f j x) P v i := fun i hi => by rw [chg_slot hi, chg_slot hi, hs i hi]
  funext i
  by_cases e : i = j
  · rw [e, upd_s, bec_own h h2, upd_s]
  · rw [upd_n _ _ e]
    by_cases h3 : i < 320
    · rw [bec_slot h3, bec_slot h3, hs i h3]
    · by_cases hb : 640 ≤ i ∧ i < 650
      · obtain ⟨k, rfl, hk⟩ : ∃ k, i = 640 + k ∧ k < 10 := ⟨i - 640, by omega, by omega⟩
        rw [bec_bit hk, bec_bit hk, upd_n _ _ e, rt_cong (fun i hi => hc _ (by omega))]
      · rw [bec_own (by omega) (by omega), bec_own (by omega) (by omega), upd_n _ _ e]
def rsF (f : Nat → Int32) (b p n : Nat) : Nat → Int32 := bec (ow f p n (nI (b + 1))) (rg p n) (fun _ => nI 3)
theorem rs_0 (f : Nat → Int32) (b p : Nat) : f = rsF f b p 0 := by
  unfold rsF
  rw [ow_0, bec_none (fun j _ => rg_0 p j)]
theorem rs_s {f g : Nat → Int32} {b p n : Nat} (hg : g = rsF f b p n) (h : p + n < 320) : bc1 (upd g (320 + (p + n)) (nI (b + 1))) (p + n) (nI 3) = rsF f b p (n + 1) := by
  rw [hg]
  unfold rsF
  rw [upd_bec (by omega) (by omega), ow_s]
  exact bec_add h rfl (fun j _ => rg_s p n j)
def rsA (f : Nat → Int32) (v : Int32) : Int32 × (Nat → Int32) := if szB v = true then (match ub f, pl f v.toNatClampNeg with
  | some b, some p => (nI b, rsF (blk f b p v.toNatClampNeg) b p v.toNatClampNeg)
  | _, _ => (-3, f)) else (-1, f)
theorem rsA_n {f : Nat → Int32} {v : Int32} (h : szB v = false) : rsA f v = (-1, f) := by unfold rsA; rw [h]; rfl
theorem rsA_0 {f : Nat → Int32} {z : Nat} (hz : okz z) (h : ub f = none ∨ pl f z = none) : rsA f (nI z) = (-3, f) := by
  have := okz_le hz
  unfold rsA
  rw [szB_of hz, nI_clamp (by omega)]
  rcases h with h | h
  · rw [h]; rfl
  · rw [h]
    cases ub f <;> rfl
theorem rsA_s {f : Nat → Int32} {z b p : Nat} (hz : okz z) (h : ub f = some b) (h2 : pl f z = some p) : rsA f (nI z) = (nI b, rsF (blk f b p z) b p z) := by
  have := okz_le hz
  unfold rsA
  rw [szB_of hz, nI_clamp (by omega), h, h2]
  rfl
/-- the blocks lie in the map -/
def BInv (f : Nat → Int32) : Prop := ∀ k, k < 8 → 0 < f (650 + 2 * k + 1) → ∃ p z, f (650 + 2 * k) = nI p ∧ f (650 + 2 * k + 1) = nI z ∧ okz z ∧ p % z = 0 ∧ p + z ≤ 320
/-- the first kept slot of the n slots from p on -/
def kp (f : Nat → Int32) (p n : Nat) : Option Nat := ls1 (fun s => decide (f s = nI 3)) n p
def tiA (f : Nat → Int32) (b : Int32) : Int32 × (Nat → Int32) := if isB f b = true then (match kp f (f (650 + 2 * b.toNatClampNeg)).toNatClampNeg (f (650 + 2 * b.toNatClampNeg + 1)).toNatClampNeg with
  | some s => (nI s, bc1 f s (nI 1))
  | none => (-3, f)) else (-1, f)
theorem tiA_n {f : Nat → Int32} {b : Int32} (h : isB f b = false) : tiA f b = (-1, f) := by unfold tiA; rw [h]; rfl
theorem tiA_s {f : Nat → Int32} {k p z : Nat} (hk : k ≤ 7) (hb : isB f (nI k) = true) (h1 : f (650 + 2 * k) = nI p) (h2 : f (650 + 2 * k + 1) = nI z) (h3 : p + z ≤ 320) : tiA f (nI k) = (match kp f p z with
  | some s => (nI s, bc1 f s (nI 1))
  | none => (-3, f)) := by
  unfold tiA
  rw [hb, nI_clamp (by omega), h1, h2, nI_clamp (by omega), nI_clamp (by omega)]
  rfl
def guF (f : Nat → Int32) (p n : Nat) : Nat → Int32 := bec (ow f p n (nI 0)) (fun j => rg p n j && decide (f j = nI 3)) (fun _ => nI 0)
def guN (f : Nat → Int32) (p n : Nat) : Nat := fb_ct (fun i => decide (f (p + i) = nI 3)) n
theorem gu_0 (f : Nat → Int32) (p : Nat) : f = guF f p 0 := by
  unfold guF
  rw [ow_0, bec_none (fun j _ => by rw [rg_0]; rfl)]
theorem gu_slot {f g : Nat → Int32} {p n : Nat} (hg : g = guF f p n) (h : p + n < 320) : g (p + n) = f (p + n) := by
  rw [hg]
  unfold guF
  rw [bec_slot_n h (by unfold rg; simp)]
  unfold ow
  rw [if_neg (by omega)]
theorem gu_blk {f g : Nat → Int32} {p n j : Nat} (hg : g = guF f p n) (h : p + n ≤ 320) (hj : 650 ≤ j) : g j = f j := by
  rw [hg]
  unfold guF
  rw [bec_own (by omega) (by omega)]
  unfold ow
  rw [if_neg (by omega)]
theorem gu_skip {f g : Nat → Int32} {p n : Nat} (hg : g = guF f p n) (hs : p + n < 320) (h : ¬ f (p + n) = nI 3) : upd g (320 + (p + n)) (nI 0) = guF f p (n + 1) := by
  rw [hg]
  unfold guF
  rw [upd_bec (by omega) (by omega), ow_s]
  refine bec_cong (fun j hj => ?_) (fun _ _ _ => rfl)
  show (rg p n j && decide (f j = nI 3)) = (rg p (n + 1) j && decide (f j = nI 3))
  rw [rg_s]
  by_cases e : j = p + n
  · rw [e]; simp [h]
  · simp [e]
theorem gu_take {f g : Nat → Int32} {p n : Nat} (hg : g = guF f p n) (hs : p + n < 320) (h : f (p + n) = nI 3) : bc1 (upd g (320 + (p + n)) (nI 0)) (p + n) (nI 0) = guF f p (n + 1) := by
  rw [hg]
  unfold guF
  rw [upd_bec (by omega) (by omega), ow_s]
  refine bec_add hs rfl (fun j hj => ?_)
  show (rg p (n + 1) j && decide (f j = nI 3)) = ((rg p n j && decide (f j = nI 3)) || decide (j = p + n))
  rw [rg_s]
  by_cases e : j = p + n
  · rw [e]; simp [h]
  · simp [e]
def guA (f : Nat → Int32) (b : Int32) : Int32 × (Nat → Int32) := if isB f b = true then (nI (guN f (f (650 + 2 * b.toNatClampNeg)).toNatClampNeg (f (650 + 2 * b.toNatClampNeg + 1)).toNatClampNeg), upd (upd (guF f (f (650 + 2 * b.toNatClampNeg)).toNatClampNeg (f (650 + 2 * b.toNatClampNeg + 1)).toNatClampNeg) (650 + 2 * b.toNatClampNeg) (nI 0)) (650 + 2 * b.toNatClampNeg + 1) (nI 0)) else (-1, f)
theorem guA_n {f : Nat → Int32} {b : Int32} (h : isB f b = false) : guA f b = (-1, f) := by unfold guA; rw [h]; rfl
theorem guA_s {f : Nat → Int32} {k p z : Nat} (hk : k ≤ 7) (hb : isB f (nI k) = true) (h1 : f (650 + 2 * k) = nI p) (h2 : f (650 + 2 * k + 1) = nI z) (h3 : p + z ≤ 320) : guA f (nI k) = (nI (guN f p z), upd (upd (guF f p z) (650 + 2 * k) (nI 0)) (650 + 2 * k + 1) (nI 0)) := by
  unfold guA
  rw [hb, nI_clamp (by omega), h1, h2, nI_clamp (by omega), nI_clamp (by omega)]
  rfl
def dmA (f : Nat → Int32) (w : Int32) : Int32 × (Nat → Int32) := if inB w (nI 0) (nI 9) = true then (nI 1 - f (640 + w.toNatClampNeg), upd f (640 + w.toNatClampNeg) (nI 1 - f (640 + w.toNatClampNeg))) else (-1, f)
theorem dmA_n {f : Nat → Int32} {w : Int32} (h : inB w (nI 0) (nI 9) = false) : dmA f w = (-1, f) := by unfold dmA; rw [h]; rfl
theorem dmA_s {f : Nat → Int32} {w : Nat} (h : w ≤ 9) : dmA f (nI w) = (nI 1 - f (640 + w), upd f (640 + w) (nI 1 - f (640 + w))) := by
  unfold dmA
  rw [inB_of (by omega) (Nat.zero_le _) h, nI_clamp (by omega)]
  rfl
/-- the bits of the words below w are right -/
def rpF (f : Nat → Int32) (w : Nat) : Nat → Int32 := fun j => if 640 ≤ j ∧ j < 640 + w then rt f (j - 640) else f j
def rpN (f : Nat → Int32) (w : Nat) : Nat := fb_ct (fun x => decide (¬ f (640 + x) = rt f x)) w
theorem rp_0 (f : Nat → Int32) : f = rpF f 0 := by
  funext j
  unfold rpF
  rw [if_neg (by omega)]
theorem rp_s {f g : Nat → Int32} {w : Nat} (hg : g = rpF f w) : upd g (640 + w) (rt f w) = rpF f (w + 1) := by
  rw [hg]
  funext j
  unfold rpF upd
  by_cases e : j = 640 + w
  · rw [if_pos e, if_pos (by omega), e, show 640 + w - 640 = w by omega]
  · rw [if_neg e]
    show (if 640 ≤ j ∧ j < 640 + w then rt f (j - 640) else f j) = _
    by_cases e2 : 640 ≤ j ∧ j < 640 + w
    · rw [if_pos e2, if_pos (by omega)]
    · rw [if_neg e2, if_neg (by omega)]
theorem rp_rt {f g : Nat → Int32} {w x : Nat} (hg : g = rpF f w) (h : x < 10) : rt g x = rt f x := by
  rw [hg]
  refine rt_cong (fun i hi => ?_)
  unfold rpF
  rw [if_neg (by omega)]
theorem rp_at {f g : Nat → Int32} {w : Nat} (hg : g = rpF f w) : g (640 + w) = f (640 + w) := by
  rw [hg]
  unfold rpF
  rw [if_neg (by omega)]
def rpA (f : Nat → Int32) : Int32 × (Nat → Int32) := (nI (rpN f 10), rpF f 10)
/-- a state of the history -/
def hsl (p : Nat → Int32) (i : Nat) : Nat → Int32 := fun j => p (667 * i + j)
def unN (f p : Nat → Int32) (k : Nat) : Nat → Int32 := if k = 0 then f else hsl p (k - 1)
def unA (k : Nat) : Int32 := if k = 0 then -2 else nI (k - 1)
def apA (tl : Nat) (c : Int32) : Int32 := if inB c (nI 1) (nI 255) = true then (if tl = 80 then -3 else nI (tl + 1)) else -1
def apT (tex : Nat → Int32) (tl : Nat) (c : Int32) : Nat → Int32 := if inB c (nI 1) (nI 255) = true ∧ ¬ tl = 80 then upd tex tl c else tex
def apL (tl : Nat) (c : Int32) : Nat := if inB c (nI 1) (nI 255) = true ∧ ¬ tl = 80 then tl + 1 else tl
theorem gbv_2 {f : Nat → Int32} {j : Nat} (h : f (320 + j) ≤ 0) : gbv f j = nI 2 := if_neg (by rw [Int32.lt_iff_toInt_lt]; rw [Int32.le_iff_toInt_le] at h; omega)
theorem gbv_3 {f : Nat → Int32} {j : Nat} (h : ¬ f (320 + j) ≤ 0) : gbv f j = nI 3 := if_pos (by rw [Int32.lt_iff_toInt_lt]; rw [Int32.le_iff_toInt_le] at h; omega)
theorem gbN_le (f : Nat → Int32) (a n : Nat) : gbN f a n ≤ n := fb_ct_le _ _
theorem guN_le (f : Nat → Int32) (a n : Nat) : guN f a n ≤ n := fb_ct_le _ _
theorem le0n {x : Int32} (h : ¬ x ≤ 0) : 0 < x := by
  rw [Int32.lt_iff_toInt_lt]
  rw [Int32.le_iff_toInt_le] at h
  omega
theorem le0y {x : Int32} (h : x ≤ 0) : ¬ 0 < x := by
  rw [Int32.lt_iff_toInt_lt]
  rw [Int32.le_iff_toInt_le] at h
  omega
/-! the reference's looks and programs -/
theorem sw_in {v : Int32} {lo hi : Nat} (h : hi < 2 ^ 31) : (v.toInt < lo ∨ (hi : Int) < v.toInt) ∨ ∃ j, lo ≤ j ∧ j ≤ hi ∧ v = nI j := by
  by_cases h1 : v.toInt < lo
  · exact Or.inl (Or.inl h1)
  · by_cases h2 : (hi : Int) < v.toInt
    · exact Or.inl (Or.inr h2)
    · right
      obtain ⟨j, hj, rfl⟩ := nI_of (x := v) (by rw [Int32.lt_iff_toInt_lt, Int32.toInt_zero]; omega)
      rw [nI_toInt hj] at h1 h2
      exact ⟨j, by omega, by omega, rfl⟩
theorem inB_out {v : Int32} {lo hi : Nat} (h2 : lo < 2 ^ 31) (h3 : hi < 2 ^ 31) (h : v.toInt < lo ∨ (hi : Int) < v.toInt) : inB v (nI lo) (nI hi) = false := by
  unfold inB
  rw [Bool.and_eq_false_iff, decide_eq_false_iff_not, decide_eq_false_iff_not, Int32.le_iff_toInt_le, Int32.le_iff_toInt_le, nI_toInt h2, nI_toInt h3]
  omega
/-- the bits are 0 or 1 -/
def Bits (f : Nat → Int32) : Prop := ∀ w, w < 10 → f (640 + w) = nI 0 ∨ f (640 + w) = nI 1
theorem bit_add {x : Int32} {n : Nat} (h : x = nI 0 ∨ x = nI 1) : nI n + x = nI (n + (if x = nI 1 then 1 else 0)) := by
  rcases h with h | h
  · rw [h, if_neg (by decide), nI_add]
  · rw [h, if_pos rfl, nI_add]
theorem rt_01 (f : Nat → Int32) (w : Nat) : rt f w = nI 0 ∨ rt f w = nI 1 := by
  unfold rt bI
  split
  · exact Or.inr rfl
  · exact Or.inl rfl
def biN (f : Nat → Int32) (n : Nat) : Nat := fb_ct (fun w => decide (f (640 + w) = nI 1)) n
def fuN (f : Nat → Int32) (n : Nat) : Nat := fb_ct (fun w => decide (rt f w = nI 1)) n
theorem ct_s (p : Nat → Prop) [DecidablePred p] (n : Nat) : fb_ct (fun w => decide (p w)) n + (if p n then 1 else 0) = fb_ct (fun w => decide (p w)) (n + 1) := by
  rw [fb_ct_succ]
  by_cases h : p n <;> simp [h]
/-- runs of free slots: how many, and the longest -/
def rsg (f : Nat → Int32) : Nat → Nat → Nat → Nat → Nat → Nat × Nat
  | 0, _, _, n, m => (n, m)
  | j + 1, s, r, n, m => rsg f j (s + 1) (if f s = nI 0 then r + 1 else 0) (n + (if (if f s = nI 0 then r + 1 else 0) = 1 then 1 else 0)) (if m < (if f s = nI 0 then r + 1 else 0) then (if f s = nI 0 then r + 1 else 0) else m)
theorem rsg_s {f : Nat → Int32} {s r n m r' n' m' : Nat} (h : s < 320) (hr : r' = (if f s = nI 0 then r + 1 else 0)) (hn : n' = n + (if r' = 1 then 1 else 0)) (hm : m' = (if m < r' then r' else m)) : rsg f (320 - s) s r n m = rsg f (320 - (s + 1)) (s + 1) r' n' m' := by
  rw [show 320 - s = (320 - (s + 1)) + 1 by omega, rsg, ← hr, ← hn, ← hm]
theorem rsg_e {f : Nat → Int32} {s r n m : Nat} (h : 320 ≤ s) : rsg f (320 - s) s r n m = (n, m) := by rw [show 320 - s = 0 by omega]; rfl
def blN (f : Nat → Int32) (n : Nat) : Nat := fb_ct (fun b => isB f (nI b)) n
/-- what count answers -/
def ctN (f : Nat → Int32) (k tl : Nat) : Nat → Int32
  | 0 => nI (tot f (nI 0))
  | 1 => nI (tot f (nI 1))
  | 2 => nI (tot f (nI 2))
  | 3 => nI (tot f (nI 3))
  | 4 => nI (blN f 8)
  | 5 => f 666
  | 6 => nI (biN f 10)
  | 7 => nI (fuN f 10)
  | 8 => nI (rsg f 320 0 0 0 0).1
  | 9 => nI (rsg f 320 0 0 0 0).2
  | 10 => nI k
  | 11 => nI tl
  | _ => -1
def ctA (f : Nat → Int32) (k tl : Nat) (v : Int32) : Int32 := if inB v (nI 0) (nI 11) = true then ctN f k tl v.toNatClampNeg else -1
theorem ctA_n {f : Nat → Int32} {k tl : Nat} {v : Int32} (h : inB v (nI 0) (nI 11) = false) : ctA f k tl v = -1 := by unfold ctA; rw [h]; rfl
theorem ctA_j {f : Nat → Int32} {k tl j : Nat} (h : j ≤ 11) : ctA f k tl (nI j) = ctN f k tl j := by
  unfold ctA
  rw [inB_of (by omega) (Nat.zero_le _) h, nI_clamp (by omega)]
  rfl
def slA (f : Nat → Int32) (a b : Int32) : Int32 := if (inB a (nI 0) (nI 319) && inB b (nI 0) (nI 1)) = true then (if b = nI 0 then f a.toNatClampNeg else if f (320 + a.toNatClampNeg) = nI 0 then -9 else f (320 + a.toNatClampNeg) - nI 1) else -1
theorem slA_n {f : Nat → Int32} {a b : Int32} (h : inB a (nI 0) (nI 319) = false ∨ inB b (nI 0) (nI 1) = false) : slA f a b = -1 := by
  unfold slA
  rcases h with h | h <;> simp [h]
theorem slA_j {f : Nat → Int32} {a b : Nat} (h : a ≤ 319) (h2 : b ≤ 1) : slA f (nI a) (nI b) = (if b = 0 then f a else if f (320 + a) = nI 0 then -9 else f (320 + a) - nI 1) := by
  unfold slA
  rw [inB_of (by omega) (Nat.zero_le _) h, inB_of (by omega) (Nat.zero_le _) h2, nI_clamp (by omega)]
  rcases (show b = 0 ∨ b = 1 by omega) with rfl | rfl <;> rfl
def wdN (f : Nat → Int32) (w j : Nat) : Int32 := if j < 4 then nI (cw f w (nI j)) else if j = 4 then f (640 + w) else if j = 5 then rt f w else oI (fi f w)
def wdA (f : Nat → Int32) (a b : Int32) : Int32 := if (inB a (nI 0) (nI 9) && inB b (nI 0) (nI 6)) = true then wdN f a.toNatClampNeg b.toNatClampNeg else -1
theorem wdA_n {f : Nat → Int32} {a b : Int32} (h : inB a (nI 0) (nI 9) = false ∨ inB b (nI 0) (nI 6) = false) : wdA f a b = -1 := by
  unfold wdA
  rcases h with h | h <;> simp [h]
theorem wdA_j {f : Nat → Int32} {a b : Nat} (h : a ≤ 9) (h2 : b ≤ 6) : wdA f (nI a) (nI b) = wdN f a b := by
  unfold wdA
  rw [inB_of (by omega) (Nat.zero_le _) h, inB_of (by omega) (Nat.zero_le _) h2, nI_clamp (by omega), nI_clamp (by omega)]
  rfl
def bkN (f : Nat → Int32) (p n j : Nat) : Nat := fb_ct (fun i => decide (f (p + i) = (if j = 2 then nI 1 else nI 3))) n
theorem bkN_le (f : Nat → Int32) (p n j : Nat) : bkN f p n j ≤ n := fb_ct_le _ _
def bkA (f : Nat → Int32) (a b : Int32) : Int32 := if (inB a (nI 0) (nI 7) && inB b (nI 0) (nI 3)) = true then (if isB f a = true then (if b = nI 0 then f (650 + 2 * a.toNatClampNeg) else if b = nI 1 then f (650 + 2 * a.toNatClampNeg + 1) else nI (bkN f (f (650 + 2 * a.toNatClampNeg)).toNatClampNeg (f (650 + 2 * a.toNatClampNeg + 1)).toNatClampNeg b.toNatClampNeg)) else -9) else -1
theorem bkA_n {f : Nat → Int32} {a b : Int32} (h : inB a (nI 0) (nI 7) = false ∨ inB b (nI 0) (nI 3) = false) : bkA f a b = -1 := by
  unfold bkA
  rcases h with h | h <;> simp [h]
theorem bkA_9 {f : Nat → Int32} {a b : Nat} (h : a ≤ 7) (h2 : b ≤ 3) (h3 : isB f (nI a) = false) : bkA f (nI a) (nI b) = -9 := by
  unfold bkA
  rw [inB_of (by omega) (Nat.zero_le _) h, inB_of (by omega) (Nat.zero_le _) h2, h3]
  rfl
theorem bkA_j {f : Nat → Int32} {a b p z : Nat} (h : a ≤ 7) (h2 : b ≤ 3) (h3 : isB f (nI a) = true) (hp : f (650 + 2 * a) = nI p) (hz : f (650 + 2 * a + 1) = nI z) (hpz : p + z ≤ 320) : bkA f (nI a) (nI b) = (if b = 0 then nI p else if b = 1 then nI z else nI (bkN f p z b)) := by
  unfold bkA
  rw [inB_of (by omega) (Nat.zero_le _) h, inB_of (by omega) (Nat.zero_le _) h2, h3, nI_clamp (by omega), hp, hz, nI_clamp (by omega), nI_clamp (by omega), nI_clamp (by omega)]
  rcases (show b = 0 ∨ b = 1 ∨ b = 2 ∨ b = 3 by omega) with rfl | rfl | rfl | rfl <;> rfl
/-- a bit is not right -/
def wr (f : Nat → Int32) (w : Nat) : Bool := decide (¬ f (640 + w) = rt f w)
def wr1 (f : Nat → Int32) (w : Nat) : Bool := decide (¬ f (640 + w) = rt f w ∧ f (640 + w) = nI 1)
def adA (f : Nat → Int32) (v : Int32) : Int32 := if inB v (nI 0) (nI 2) = true then (if v = nI 0 then nI (fb_ct (wr f) 10) else if v = nI 1 then oI (ls1 (wr f) 10 0) else nI (fb_ct (wr1 f) 10)) else -1
theorem adA_n {f : Nat → Int32} {v : Int32} (h : inB v (nI 0) (nI 2) = false) : adA f v = -1 := by unfold adA; rw [h]; rfl
theorem adA_j {f : Nat → Int32} {j : Nat} (h : j ≤ 2) : adA f (nI j) = (if j = 0 then nI (fb_ct (wr f) 10) else if j = 1 then oI (ls1 (wr f) 10 0) else nI (fb_ct (wr1 f) 10)) := by
  unfold adA
  rw [inB_of (by omega) (Nat.zero_le _) h]
  rcases (show j = 0 ∨ j = 1 ∨ j = 2 by omega) with rfl | rfl | rfl <;> rfl
/-- one less than n -/
def dn (n : Nat) : Int32 := nI n - nI 1
theorem dn_s (n : Nat) : dn (n + 1) = nI n := by unfold dn; rw [pk_sub (by omega)]; rfl
theorem dn_d (n : Nat) : nI n + Int32.ofInt (-1) = dn n := by unfold dn; rw [Int32.sub_eq_add_neg]; rfl
theorem dn_0 {n : Nat} (hn : n ≤ 10) (h : ¬ dn n < 0) : ∃ w, n = w + 1 := by
  cases n with
  | zero => exact absurd (by decide) h
  | succ w => exact ⟨w, rfl⟩
theorem dn_1 {n : Nat} (hn : n ≤ 10) (h : dn n < 0) : n = 0 := by
  cases n with
  | zero => rfl
  | succ w =>
    rw [dn_s] at h
    exact absurd h (nI_pos (by omega))
def nxA (f : Nat → Int32) (v : Int32) : Int32 := if inB v (nI 0) (nI 2) = true then (match (tk f).1 with
  | none => -9
  | some s => if v = nI 0 then nI s else if v = nI 1 then (tk f).2 666 - f 666 else if tot (tk f).2 (nI 2) < tot f (nI 2) then nI 1 else nI 0) else -1
theorem nxA_n {f : Nat → Int32} {v : Int32} (h : inB v (nI 0) (nI 2) = false) : nxA f v = -1 := by unfold nxA; rw [h]; rfl
theorem nxA_0 {f : Nat → Int32} {j : Nat} (h : j ≤ 2) (ho : (tk f).1 = none) : nxA f (nI j) = -9 := by
  unfold nxA
  rw [inB_of (by omega) (Nat.zero_le _) h, ho]
  rfl
theorem nxA_j {f : Nat → Int32} {j s : Nat} (h : j ≤ 2) (ho : (tk f).1 = some s) : nxA f (nI j) = (if j = 0 then nI s else if j = 1 then (tk f).2 666 - f 666 else if tot (tk f).2 (nI 2) < tot f (nI 2) then nI 1 else nI 0) := by
  unfold nxA
  rw [inB_of (by omega) (Nat.zero_le _) h, ho]
  rcases (show j = 0 ∨ j = 1 ∨ j = 2 by omega) with rfl | rfl | rfl <;> rfl
def raA (f : Nat → Int32) (v : Int32) : Int32 := if inB v (nI 1) (nI 64) = true then oI (rn f v.toNatClampNeg 320 0 0) else -1
def pfA (f : Nat → Int32) (v : Int32) : Int32 := if szB v = true then oI (pl f v.toNatClampNeg) else -1
/-- how many slots the takes come to, word by word -/
def rc (f : Nat → Int32) (w : Nat) : Nat := if f (640 + w) = nI 0 ∨ 0 < cw f w (nI 2) then cw f w (nI 0) + cw f w (nI 2) else 0
def reach (f : Nat → Int32) : Nat := fb_sm (rc f) 10
theorem rc_cong {f g : Nat → Int32} {w : Nat} (h : ∀ i, i < 32 → g (32 * w + i) = f (32 * w + i)) (h2 : g (640 + w) = f (640 + w)) : rc g w = rc f w := by
  unfold rc
  rw [h2, cw_cong h, cw_cong h]
theorem reach_one {f g : Nat → Int32} {w : Nat} (hw : w < 10) (h : ∀ x, x < 10 → x ≠ w → rc g x = rc f x) : reach g + rc f w = reach f + rc g w := by
  have h1 := fb_sm_upd (rc f) (rc g w) hw
  have h2 : fb_sm (fun k => if k = w then rc g w else rc f k) 10 = reach g := fb_sm_cong (fun x hx => by
    by_cases e : x = w
    · rw [if_pos e, e]
    · rw [if_neg e, h x hx e])
  rw [h2] at h1
  exact h1
theorem cw_none {f : Nat → Int32} {w : Nat} (h : fi f w = none) : cw f w (nI 0) = 0 := by
  unfold cw
  rw [fb_ct_zero]
  intro i hi
  exact ls1_none h (32 * w + i) (by omega) (by omega)
theorem cw_set {f : Nat → Int32} {s : Nat} {k x : Int32} : cw (upd f s x) (s / 32) k + (if f s = k then 1 else 0) = cw f (s / 32) k + (if x = k then 1 else 0) := by
  have h := fb_ct_upd (fun i => decide (f (32 * (s / 32) + i) = k)) (decide (x = k)) (i := s % 32) (n := 32) (Nat.mod_lt _ (by decide))
  rw [show 32 * (s / 32) + s % 32 = s by omega] at h
  have e : cw (upd f s x) (s / 32) k = fb_ct (fun j => if j = s % 32 then decide (x = k) else decide (f (32 * (s / 32) + j) = k)) 32 := fb_ct_cong (fun i hi => by
    by_cases q : i = s % 32
    · rw [if_pos q, q, show 32 * (s / 32) + s % 32 = s by omega, upd_s]
    · rw [if_neg q, upd_n _ _ (by omega)])
  rw [e]
  simp only [decide_eq_true_eq] at h
  exact h
theorem lkP_n (f : Nat → Int32) {j : Nat} (h : j ≠ 666) : lkP f j = f j := upd_n _ _ h
theorem reach_full {f : Nat → Int32} {w : Nat} (hw : w < 10) (c : f (640 + w) = nI 0) (ho : fi (lkP f) w = none) : reach (upd (lkP f) (640 + w) (nI 1)) = reach f := by
  have hs : ∀ j, j < 640 → upd (lkP f) (640 + w) (nI 1) j = f j := fun j hj => by rw [upd_n _ _ (by omega), lkP_n _ (by omega)]
  have hz : cw f w (nI 0) = 0 := (cw_cong (fun i hi => (lkP_n f (by omega)).symm)).trans (cw_none ho)
  have hx : ∀ x, x < 10 → x ≠ w → rc (upd (lkP f) (640 + w) (nI 1)) x = rc f x := fun x hx e => rc_cong (fun i hi => hs _ (by omega)) (by rw [upd_n _ _ (by omega), lkP_n _ (by omega)])
  have h1 := reach_one hw hx
  have h2 : rc (upd (lkP f) (640 + w) (nI 1)) w = rc f w := by
    unfold rc
    rw [upd_s, cw_cong (k := nI 0) (fun i hi => hs _ (by omega)), cw_cong (k := nI 2) (fun i hi => hs _ (by omega)), hz, if_pos (Or.inl c)]
    by_cases e : 0 < cw f w (nI 2)
    · rw [if_pos (Or.inr e)]
    · rw [if_neg (fun q => q.elim (by decide) e)]
      omega
  omega
theorem rc_rt {f : Nat → Int32} {w : Nat} (h : f (640 + w) = rt f w) : rc f w = cw f w (nI 0) + cw f w (nI 2) := by
  unfold rc
  by_cases e : cw f w (nI 0) = 0
  · by_cases e2 : 0 < cw f w (nI 2)
    · rw [if_pos (Or.inr e2)]
    · rw [if_neg (fun q => q.elim (fun q => by
        rw [h, rt, bI, if_pos (decide_eq_true e)] at q
        exact absurd q (by decide)) e2)]
      omega
  · rw [if_pos (Or.inl (by rw [h, rt, bI, if_neg (by simp [e])]; rfl))]
theorem rt_bc1 {f : Nat → Int32} {s : Nat} {x : Int32} (hs : s < 320) : bc1 f s x (640 + s / 32) = rt (bc1 f s x) (s / 32) := by
  unfold bc1
  rw [upd_s]
  exact rt_cong (fun i hi => (upd_n _ _ (by omega)).symm)
theorem reach_take {f : Nat → Int32} {w s : Nat} (hw : w < 10) (c : f (640 + w) = nI 0) (ho : fi (lkP f) w = some s) : reach (bc1 (lkP f) s (nI 1)) + 1 = reach f := by
  obtain ⟨h1, h2, h3⟩ := fi_lt ho
  obtain rfl : w = s / 32 := by omega
  have hl : ∀ j, j < 666 → lkP f j = f j := fun j hj => lkP_n _ (by omega)
  have hx : ∀ x, x < 10 → x ≠ s / 32 → rc (bc1 (lkP f) s (nI 1)) x = rc f x := fun x hx e => rc_cong (fun i hi => by
    unfold bc1
    rw [upd_n _ _ (by omega), upd_n _ _ (by omega), hl _ (by omega)]) (by unfold bc1; rw [upd_n _ _ (by omega), upd_n _ _ (by omega), hl _ (by omega)])
  have h4 := reach_one hw hx
  have h5 := rc_rt (rt_bc1 (f := lkP f) (x := nI 1) (show s < 320 by omega))
  have e : ∀ k, cw (bc1 (lkP f) s (nI 1)) (s / 32) k = cw (upd (lkP f) s (nI 1)) (s / 32) k := fun k => cw_cong (fun i hi => by unfold bc1; rw [upd_n _ _ (by omega)])
  have h6 := cw_set (f := lkP f) (s := s) (k := nI 0) (x := nI 1)
  have h7 := cw_set (f := lkP f) (s := s) (k := nI 2) (x := nI 1)
  rw [h3, if_pos rfl, if_neg (by decide)] at h6
  rw [h3, if_neg (by decide), if_neg (by decide)] at h7
  have h8 : rc f (s / 32) = cw f (s / 32) (nI 0) + cw f (s / 32) (nI 2) := if_pos (Or.inl c)
  have h9 : ∀ k, cw (lkP f) (s / 32) k = cw f (s / 32) k := fun k => cw_cong (fun i hi => hl _ (by omega))
  rw [h9] at h6 h7
  rw [e, e] at h5
  omega
theorem gt_some : ∀ {n w : Nat} {f : Nat → Int32} {s : Nat}, w + n = 10 → (gt n w f).1 = some s → reach (gt n w f).2 + 1 = reach f
  | 0, _, _, _, _, h => by cases h
  | n + 1, w, f, s, hw, h => by
    rw [gt] at h ⊢
    by_cases c : f (640 + w) = nI 0
    · rw [if_pos c] at h ⊢
      cases ho : fi (lkP f) w with
      | none =>
        rw [ho] at h
        rw [← reach_full (by omega) c ho]
        exact gt_some (by omega) h
      | some s2 => exact reach_take (by omega) c ho
    · rw [if_neg c] at h ⊢
      exact gt_some (by omega) h
theorem gt_none : ∀ {n w : Nat} {f : Nat → Int32}, w + n = 10 → (gt n w f).1 = none → reach (gt n w f).2 = reach f ∧ (∀ j, j < 640 → (gt n w f).2 j = f j) ∧ (∀ x, x < 10 → w ≤ x → ¬ (gt n w f).2 (640 + x) = nI 0) ∧ (∀ x, x < w → (gt n w f).2 (640 + x) = f (640 + x))
  | 0, w, f, hw, _ => ⟨rfl, fun _ _ => rfl, fun x h1 h2 => absurd h2 (by omega), fun _ _ => rfl⟩
  | n + 1, w, f, hw, h => by
    rw [gt] at h ⊢
    by_cases c : f (640 + w) = nI 0
    · rw [if_pos c] at h ⊢
      cases ho : fi (lkP f) w with
      | none =>
        rw [ho] at h
        obtain ⟨h1, h2, h3, h4⟩ := gt_none (by omega) h
        refine ⟨h1.trans (reach_full (by omega) c ho), fun j hj => ?_, fun x hx hwx => ?_, fun x hx => ?_⟩
        · show (gt n (w + 1) _).2 j = _
          rw [h2 j hj, upd_n _ _ (by omega), lkP_n _ (by omega)]
        · by_cases e : x = w
          · show ¬ (gt n (w + 1) _).2 (640 + x) = _
            rw [h4 x (by omega), e, upd_s]
            decide
          · exact h3 x hx (by omega)
        · show (gt n (w + 1) _).2 (640 + x) = _
          rw [h4 x (by omega), upd_n _ _ (by omega), lkP_n _ (by omega)]
      | some s2 =>
        rw [ho] at h
        cases h
    · rw [if_neg c] at h ⊢
      obtain ⟨h1, h2, h3, h4⟩ := gt_none (by omega) h
      refine ⟨h1, h2, fun x hx hwx => ?_, fun x hx => h4 x (by omega)⟩
      by_cases e : x = w
      · rw [h4 x (by omega), e]
        exact c
      · exact h3 x hx (by omega)
/-- behind a clearing of all, with no word hidden by its bit but by right, as many can be taken as before -/
theorem clF_slot {f : Nat → Int32} {j : Nat} (h : j < 320) (hz : lzc f 10 ≤ 10) : clF f 10 j = if f j = nI 2 then nI 0 else f j := by
  unfold clF
  rw [bec_slot h, clP_in (by omega)]
  by_cases e : f j = nI 2
  · have h1 := cw_pos (f := f) rfl e
    have h2 : lzc f (j / 32) < 10 := by
      have h3 : lzc f (j / 32 + 1) ≤ lzc f 10 := fb_ct_mono _ (by omega)
      rw [lzc_succ, if_pos h1] at h3
      omega
    simp [e, selB, h1, h2]
  · simp [e]
theorem lzc_le (f : Nat → Int32) (w : Nat) : lzc f w ≤ w := fb_ct_le _ _
theorem clF_cw {f : Nat → Int32} {w : Nat} (h : w < 10) : cw (clF f 10) w (nI 2) = 0 ∧ cw (clF f 10) w (nI 0) = cw f w (nI 0) + cw f w (nI 2) := by
  have hs : ∀ i, i < 32 → clF f 10 (32 * w + i) = if f (32 * w + i) = nI 2 then nI 0 else f (32 * w + i) := fun i hi => clF_slot (by omega) (lzc_le f 10)
  constructor
  · unfold cw
    rw [fb_ct_zero]
    intro i hi
    rw [hs i hi]
    by_cases e : f (32 * w + i) = nI 2
    · rw [if_pos e]; decide
    · rw [if_neg e]; exact decide_eq_false e
  · unfold cw
    rw [← fb_ct_or (fun i hi => by
      rw [decide_eq_true_iff, decide_eq_true_iff]
      intro q
      rw [q.1] at q
      exact absurd q.2 (by decide))]
    refine fb_ct_cong (fun i hi => ?_)
    rw [hs i hi]
    by_cases e : f (32 * w + i) = nI 2
    · rw [if_pos e, e]; decide
    · rw [if_neg e]; simp [e]
theorem clF_bit {f : Nat → Int32} {w : Nat} (h : w < 10) : clF f 10 (640 + w) = if 0 < cw f w (nI 2) then rt (clF f 10) w else f (640 + w) := by
  unfold clF
  rw [bec_bit h]
  have e : anyB (clP f 10 10 0) w = decide (0 < cw f w (nI 2)) := by
    rw [Bool.eq_iff_iff, anyB_iff, decide_eq_true_iff]
    constructor
    · rintro ⟨i, hi, hp⟩
      rw [clP_in (by omega), Bool.and_eq_true, decide_eq_true_iff] at hp
      exact cw_pos (by omega) hp.2
    · intro hp
      obtain ⟨i, hi, hp2⟩ := fb_ct_pos.mp hp
      have h2 : lzc f w < 10 := Nat.lt_of_le_of_lt (lzc_le f w) h
      refine ⟨i, hi, ?_⟩
      rw [clP_in (by omega), show (32 * w + i) / 32 = w by omega]
      simp [selB, hp, h2, of_decide_eq_true hp2]
  rw [e]
  by_cases q : 0 < cw f w (nI 2)
  · rw [if_pos (decide_eq_true q), if_pos q]
    exact rt_cong (fun i hi => by rw [chg_slot (by omega), bec_slot (by omega)])
  · rw [if_neg (by simp [q]), if_neg q]
theorem reach_clear {f : Nat → Int32} (h : ∀ x, x < 10 → ¬ f (640 + x) = nI 0) : reach (clF f 10) = reach f := by
  refine fb_sm_cong (fun w hw => ?_)
  obtain ⟨h1, h2⟩ := clF_cw (f := f) hw
  by_cases e : 0 < cw f w (nI 2)
  · rw [rc_rt (by rw [clF_bit hw, if_pos e]), h1, h2]
    unfold rc
    rw [if_pos (Or.inr e)]
    rfl
  · unfold rc
    rw [h1, clF_bit hw, if_neg e, if_neg (fun q => q.elim (h w hw) (by omega)), if_neg (fun q => q.elim (h w hw) e)]
theorem reach_0 {f : Nat → Int32} (h : ∀ x, x < 10 → ¬ f (640 + x) = nI 0) (h2 : ∀ x, x < 10 → cw f x (nI 2) = 0) : reach f = 0 := by
  have := fb_sm_bound (f := rc f) (c := 0) (n := 10) (fun w hw => by
    unfold rc
    rw [if_neg (fun q => q.elim (h w hw) (by rw [h2 w hw]; omega))]
    omega)
  unfold reach
  omega
theorem clN_0 {f : Nat → Int32} (h : ¬ 0 < clN f 10) : ∀ x, x < 10 → cw f x (nI 2) = 0 := fun x hx => by
  have h1 := fb_sm_zero (f := fun x => if selB f 10 x = true then cw f x (nI 2) else 0) (n := 10) (by unfold clN at h; omega) x hx
  have h2 : (if selB f 10 x = true then cw f x (nI 2) else 0) = 0 := h1
  by_cases e : 0 < cw f x (nI 2)
  · rw [if_pos (by unfold selB; simp [e]; exact Nat.lt_of_le_of_lt (lzc_le f x) hx)] at h2
    exact h2
  · omega
theorem tk_some {f : Nat → Int32} {s : Nat} (h : (tk f).1 = some s) : reach (tk f).2 + 1 = reach f := by
  cases h1 : (gt 10 0 f).1 with
  | some s2 =>
    rw [tk_1 h1]
    exact gt_some rfl h1
  | none =>
    obtain ⟨h3, h4, h5, -⟩ := gt_none (n := 10) (w := 0) rfl h1
    by_cases h2 : 0 < clN (gt 10 0 f).2 10
    · rw [tk_2 h1 h2] at h ⊢
      rw [gt_some rfl h, reach_clear (fun x hx => h5 x hx (Nat.zero_le _)), h3]
    · rw [tk_3 h1 h2] at h
      cases h
theorem tk_none {f : Nat → Int32} (h : (tk f).1 = none) : reach f = 0 := by
  cases h1 : (gt 10 0 f).1 with
  | some s2 =>
    rw [tk_1 h1] at h
    cases h
  | none =>
    obtain ⟨h3, h4, h5, -⟩ := gt_none (n := 10) (w := 0) rfl h1
    by_cases h2 : 0 < clN (gt 10 0 f).2 10
    · rw [tk_2 h1 h2] at h
      obtain ⟨g3, g4, g5, -⟩ := gt_none (n := 10) (w := 0) rfl h
      have e1 := reach_clear (f := (gt 10 0 f).2) (fun x hx => h5 x hx (Nat.zero_le _))
      rw [← h3, ← e1, ← g3]
      exact reach_0 (fun x hx => g5 x hx (Nat.zero_le _)) (fun x hx => (cw_cong (fun i hi => g4 _ (by omega))).trans (clF_cw (f := (gt 10 0 f).2) hx).1)
    · rw [← h3]
      exact reach_0 (fun x hx => h5 x hx (Nat.zero_le _)) (clN_0 h2)
theorem reach_le (f : Nat → Int32) : reach f ≤ 640 := by
  refine Nat.le_trans (fb_sm_bound (c := 64) (fun w _ => ?_)) (by decide)
  have h1 := cw_le f w (nI 0)
  have h2 := cw_le f w (nI 2)
  unfold rc
  split <;> omega
/-! the reference's programs -/
/-- the sign at a place of the text -/
def sg (t : Nat → Int32) (tl a : Nat) : Int32 := if a < tl then t a else nI 0
def dgB (t : Nat → Int32) (tl a : Nat) : Bool := inB (sg t tl a) (nI 48) (nI 57)
def dg (t : Nat → Int32) (tl a : Nat) : Nat := (sg t tl a).toNatClampNeg - 48
theorem dg_of {t : Nat → Int32} {tl a : Nat} (h : dgB t tl a = true) : sg t tl a = nI (48 + dg t tl a) ∧ dg t tl a ≤ 9 ∧ a < tl := by
  obtain ⟨k, h1, h2, h3⟩ := inB_nat (by decide) (by decide) h
  have h4 : dg t tl a = k - 48 := by unfold dg; rw [h3, nI_clamp (by omega)]
  refine ⟨by rw [h3, h4, show 48 + (k - 48) = k by omega], by omega, ?_⟩
  rcases Nat.lt_or_ge a tl with q | q
  · exact q
  · unfold sg at h3
    rw [if_neg (by omega), nI_eq (by decide) (by omega)] at h3
    omega
/-- a number is read on, with k digits at most -/
def nmG (t : Nat → Int32) (tl : Nat) : Nat → Nat → Nat → Nat × Nat
  | 0, v, a => (v, a)
  | k + 1, v, a => if 0 < v ∧ dgB t tl a = true then nmG t tl k (10 * v + dg t tl a) (a + 1) else (v, a)
def nm (t : Nat → Int32) (tl a : Nat) : Nat × Nat := nmG t tl 2 (dg t tl a) (a + 1)
theorem nmG_go {t : Nat → Int32} {tl k v a : Nat} (h : k < 2) (hv : 0 < v) (hd : dgB t tl a = true) : nmG t tl (2 - k) v a = nmG t tl (2 - (k + 1)) (10 * v + dg t tl a) (a + 1) := by
  rw [show 2 - k = (2 - (k + 1)) + 1 by omega, nmG, if_pos ⟨hv, hd⟩]
theorem nmG_no {t : Nat → Int32} {tl k v a : Nat} (h : ¬ 0 < v ∨ dgB t tl a = false) : nmG t tl k v a = (v, a) := by
  cases k with
  | zero => rfl
  | succ k => rw [nmG, if_neg (fun q => h.elim (fun h => h q.1) (fun h => by rw [h] at q; exact absurd q.2 (by decide)))]
theorem nmG_end {t : Nat → Int32} {tl k v a : Nat} (h : 2 ≤ k) : nmG t tl (2 - k) v a = (v, a) := by rw [show 2 - k = 0 by omega]; rfl
theorem num_step {v d : Nat} : nI (10 * v) + nI (48 + d) - nI 48 = nI (10 * v + d) := by rw [nI_add, pk_sub (by omega), show 10 * v + (48 + d) - 48 = 10 * v + d by omega]
theorem nmG_in {t : Nat → Int32} {tl : Nat} : ∀ {k v a : Nat}, a ≤ (nmG t tl k v a).2 ∧ (nmG t tl k v a).2 ≤ a + k ∧ (nmG t tl k v a).1 < (v + 1) * 10 ^ k
  | 0, v, a => by show a ≤ a ∧ a ≤ a + 0 ∧ v < (v + 1) * 10 ^ 0; omega
  | k + 1, v, a => by
    rw [nmG]
    by_cases c : 0 < v ∧ dgB t tl a = true
    · rw [if_pos c]
      obtain ⟨h1, h2, h3⟩ := nmG_in (t := t) (tl := tl) (k := k) (v := 10 * v + dg t tl a) (a := a + 1)
      obtain ⟨-, h4, -⟩ := dg_of c.2
      refine ⟨by omega, by omega, Nat.lt_of_lt_of_le h3 ?_⟩
      rw [Nat.pow_succ, Nat.mul_comm (10 ^ k) 10, ← Nat.mul_assoc]
      exact Nat.mul_le_mul_right _ (by omega)
    · rw [if_neg c]
      refine ⟨Nat.le_refl _, by omega, ?_⟩
      have : 1 ≤ 10 ^ (k + 1) := Nat.pos_of_ne_zero (by simp)
      show v < (v + 1) * 10 ^ (k + 1)
      calc v < (v + 1) * 1 := by omega
        _ ≤ (v + 1) * 10 ^ (k + 1) := Nat.mul_le_mul_left _ this
theorem nm_in {t : Nat → Int32} {tl a : Nat} (h : dgB t tl a = true) : a < (nm t tl a).2 ∧ (nm t tl a).2 ≤ a + 3 ∧ (nm t tl a).1 < 1000 := by
  obtain ⟨h1, h2, h3⟩ := nmG_in (t := t) (tl := tl) (k := 2) (v := dg t tl a) (a := a + 1)
  obtain ⟨-, h4, -⟩ := dg_of h
  refine ⟨h1, by unfold nm; omega, ?_⟩
  unfold nm
  have : (dg t tl a + 1) * 10 ^ 2 ≤ 10 * 10 ^ 2 := Nat.mul_le_mul_right _ (by omega)
  omega
/-- many slots are taken, one by one, as far as it goes: the last answer and the slots behind -/
def tmR : Nat → Int32 → (Nat → Int32) → Int32 × (Nat → Int32)
  | 0, a, g => (a, g)
  | j + 1, a, g => if a < 0 then (a, g) else tmR j (o3 (tk g).1) (tk g).2
theorem tmR_end {m k : Nat} {a : Int32} {g : Nat → Int32} (h : m ≤ k) : tmR (m - k) a g = (a, g) := by rw [show m - k = 0 by omega]; rfl
theorem tmR_neg {k : Nat} {a : Int32} {g : Nat → Int32} (h : a < 0) : tmR k a g = (a, g) := by
  cases k with
  | zero => rfl
  | succ k => rw [tmR, if_pos h]
theorem tmR_go {m k : Nat} {a : Int32} {g : Nat → Int32} (h : k < m) (ha : ¬ a < 0) : tmR (m - k) a g = tmR (m - (k + 1)) (o3 (tk g).1) (tk g).2 := by
  rw [show m - k = (m - (k + 1)) + 1 by omega, tmR, if_neg ha]
def tmA (f : Nat → Int32) (v : Int32) : Int32 × (Nat → Int32) := if inB v (nI 1) (nI 320) = true then tmR v.toNatClampNeg (nI 0) f else (-1, f)
theorem tmA_n {f : Nat → Int32} {v : Int32} (h : inB v (nI 1) (nI 320) = false) : tmA f v = (-1, f) := by unfold tmA; rw [h]; rfl
theorem tmA_m {f : Nat → Int32} {m : Nat} (h1 : 1 ≤ m) (h2 : m ≤ 320) : tmA f (nI m) = tmR m (nI 0) f := by
  unfold tmA
  rw [inB_of (by omega) h1 h2, nI_clamp (by omega)]
  rfl
/-- a command is done -/
def doA (f : Nat → Int32) (lt : Nat) (one other : Int32) : Int32 × (Nat → Int32) :=
  if lt = 116 then tmA f one else if lt = 102 then gbA f one other else if lt = 99 then clA f one else if lt = 114 then rsA f one else if lt = 98 then tiA f one else if lt = 100 then dmA f one else rpA f
def ltB (v : Int32) : Bool := decide (v = nI 116) || decide (v = nI 102) || decide (v = nI 99) || decide (v = nI 114) || decide (v = nI 98) || decide (v = nI 100) || decide (v = nI 97)
theorem ltB_t {v : Int32} (h : ltB v = true) : ∃ k, v = nI k ∧ (k = 116 ∨ k = 102 ∨ k = 99 ∨ k = 114 ∨ k = 98 ∨ k = 100 ∨ k = 97) := by
  unfold ltB at h
  simp only [Bool.or_eq_true, decide_eq_true_eq] at h
  rcases h with (((((h | h) | h) | h) | h) | h) | h
  · exact ⟨116, h, by omega⟩
  · exact ⟨102, h, by omega⟩
  · exact ⟨99, h, by omega⟩
  · exact ⟨114, h, by omega⟩
  · exact ⟨98, h, by omega⟩
  · exact ⟨100, h, by omega⟩
  · exact ⟨97, h, by omega⟩
/-- the end of a command: its sign, its work -/
def roE (f t : Nat → Int32) (tl a k one other a2 : Nat) : Bool × Nat × (Nat → Int32) :=
  if sg t tl a2 = nI 59 then (if (doA f k (nI one) (nI other)).1 < 0 then (false, a, (doA f k (nI one) (nI other)).2) else (true, a2 + 1, (doA f k (nI one) (nI other)).2)) else (false, a2, f)
/-- behind a command's first number -/
def roF (f t : Nat → Int32) (tl a k one a1 : Nat) : Bool × Nat × (Nat → Int32) :=
  if k = 102 ∧ sg t tl a1 = nI 45 then (if dgB t tl (a1 + 1) = true then roE f t tl a k one (nm t tl (a1 + 1)).1 (nm t tl (a1 + 1)).2 else (false, a1 + 1, f)) else roE f t tl a k one one a1
/-- behind a command's letter -/
def roL (f t : Nat → Int32) (tl a k : Nat) : Bool × Nat × (Nat → Int32) :=
  if k = 97 ∨ (k = 116 ∧ dgB t tl (a + 1) = false) then roF f t tl a k 1 (a + 1)
  else if dgB t tl (a + 1) = true then roF f t tl a k (nm t tl (a + 1)).1 (nm t tl (a + 1)).2 else (false, a + 1, f)
/-- a command is read and done: whether it could be, the place, the slots -/
def ro (f t : Nat → Int32) (tl a : Nat) : Bool × Nat × (Nat → Int32) :=
  if ltB (sg t tl a) = true then roL f t tl a (sg t tl a).toNatClampNeg else (false, a, f)
theorem ro_n {f t : Nat → Int32} {tl a : Nat} (h : ltB (sg t tl a) = false) : ro f t tl a = (false, a, f) := by unfold ro; rw [h]; rfl
theorem ro_k {f t : Nat → Int32} {tl a k : Nat} (h : ltB (sg t tl a) = true) (hk : sg t tl a = nI k) (h2 : k < 200) : ro f t tl a = roL f t tl a k := by
  unfold ro
  rw [h, hk, nI_clamp (by omega)]
  rfl
theorem roL_1 {f t : Nat → Int32} {tl a k : Nat} (h : k = 97 ∨ (k = 116 ∧ dgB t tl (a + 1) = false)) : roL f t tl a k = roF f t tl a k 1 (a + 1) := if_pos h
theorem roL_2 {f t : Nat → Int32} {tl a k : Nat} (h : ¬ k = 97) (h2 : dgB t tl (a + 1) = true) : roL f t tl a k = roF f t tl a k (nm t tl (a + 1)).1 (nm t tl (a + 1)).2 := by
  unfold roL
  rw [if_neg (fun q => q.elim h (fun q => by rw [h2] at q; exact absurd q.2 (by decide))), if_pos h2]
theorem roL_3 {f t : Nat → Int32} {tl a k : Nat} (h : ¬ k = 97) (h3 : ¬ k = 116) (h2 : dgB t tl (a + 1) = false) : roL f t tl a k = (false, a + 1, f) := by
  unfold roL
  rw [if_neg (fun q => q.elim h (fun q => h3 q.1)), h2]
  rfl
theorem roF_1 {f t : Nat → Int32} {tl a k one a1 : Nat} (h : ¬ k = 102 ∨ ¬ sg t tl a1 = nI 45) : roF f t tl a k one a1 = roE f t tl a k one one a1 := if_neg (fun q => h.elim (fun h => h q.1) (fun h => h q.2))
theorem roF_2 {f t : Nat → Int32} {tl a k one a1 : Nat} (h : k = 102) (h1 : sg t tl a1 = nI 45) (h2 : dgB t tl (a1 + 1) = true) : roF f t tl a k one a1 = roE f t tl a k one (nm t tl (a1 + 1)).1 (nm t tl (a1 + 1)).2 := by
  unfold roF
  rw [if_pos ⟨h, h1⟩, if_pos h2]
theorem roF_3 {f t : Nat → Int32} {tl a k one a1 : Nat} (h : k = 102) (h1 : sg t tl a1 = nI 45) (h2 : dgB t tl (a1 + 1) = false) : roF f t tl a k one a1 = (false, a1 + 1, f) := by
  unfold roF
  rw [if_pos ⟨h, h1⟩, h2]
  rfl
theorem roE_1 {f t : Nat → Int32} {tl a k one other a2 : Nat} (h : ¬ sg t tl a2 = nI 59) : roE f t tl a k one other a2 = (false, a2, f) := if_neg h
theorem roE_2 {f t : Nat → Int32} {tl a k one other a2 : Nat} (h : sg t tl a2 = nI 59) (h2 : (doA f k (nI one) (nI other)).1 < 0) : roE f t tl a k one other a2 = (false, a, (doA f k (nI one) (nI other)).2) := by
  unfold roE
  rw [if_pos h, if_pos h2]
theorem roE_3 {f t : Nat → Int32} {tl a k one other a2 : Nat} (h : sg t tl a2 = nI 59) (h2 : ¬ (doA f k (nI one) (nI other)).1 < 0) : roE f t tl a k one other a2 = (true, a2 + 1, (doA f k (nI one) (nI other)).2) := by
  unfold roE
  rw [if_pos h, if_neg h2]
theorem sg_59 {t : Nat → Int32} {tl a : Nat} {k : Nat} (h : sg t tl a = nI k) (hk : 0 < k) (hk2 : k < 1000) : a < tl := by
  rcases Nat.lt_or_ge a tl with q | q
  · exact q
  · unfold sg at h
    rw [if_neg (by omega), nI_eq (by decide) (by omega)] at h
    omega
/-- the commands from a on, n of them done before: the answer, the slots; j commands at most -/
def rnG (t : Nat → Int32) (tl : Nat) : Nat → Nat → Nat → (Nat → Int32) → Int32 × (Nat → Int32)
  | 0, _, n, f => (nI n, f)
  | j + 1, a, n, f => if a < tl then (if (ro f t tl a).1 = true then rnG t tl j (ro f t tl a).2.1 (n + 1) (ro f t tl a).2.2 else ((-1000) - nI (ro f t tl a).2.1, (ro f t tl a).2.2)) else (nI n, f)
def rnA (f t : Nat → Int32) (tl : Nat) : Int32 × (Nat → Int32) := rnG t tl 81 0 0 f
theorem rnG_end {t : Nat → Int32} {tl j a n : Nat} {f : Nat → Int32} (h : tl ≤ a) : rnG t tl j a n f = (nI n, f) := by
  cases j with
  | zero => rfl
  | succ j => rw [rnG, if_neg (by omega)]
theorem rnG_go {t : Nat → Int32} {tl j a n : Nat} {f : Nat → Int32} (h : a < tl) (hj : tl - a ≤ j) (hr : (ro f t tl a).1 = true) : rnG t tl j a n f = rnG t tl (j - 1) (ro f t tl a).2.1 (n + 1) (ro f t tl a).2.2 := by
  obtain ⟨i, rfl⟩ : ∃ i, j = i + 1 := ⟨j - 1, by omega⟩
  rw [rnG, if_pos h, if_pos hr]
  rfl
theorem rnG_no {t : Nat → Int32} {tl j a n : Nat} {f : Nat → Int32} (h : a < tl) (hj : tl - a ≤ j) (hr : (ro f t tl a).1 = false) : rnG t tl j a n f = ((-1000) - nI (ro f t tl a).2.1, (ro f t tl a).2.2) := by
  obtain ⟨i, rfl⟩ : ∃ i, j = i + 1 := ⟨j - 1, by omega⟩
  rw [rnG, if_pos h, hr]
  rfl
theorem dg_sub {t : Nat → Int32} {tl a : Nat} (h : dgB t tl a = true) : sg t tl a - nI 48 = nI (dg t tl a) := by
  rw [(dg_of h).1, pk_sub (by omega), show 48 + dg t tl a - 48 = dg t tl a by omega]
/-- what stays of the blocks -/
def keepB (f g : Nat → Int32) : Prop := ∀ j, 650 ≤ j → j < 666 → g j = f j
theorem keepB.inv {f g : Nat → Int32} (h : keepB f g) (hB : BInv f) : BInv g := by
  intro k hk h0
  rw [h _ (by omega) (by omega)] at h0
  obtain ⟨p, z, h1, h2, h3⟩ := hB k hk h0
  exact ⟨p, z, by rw [h _ (by omega) (by omega)]; exact h1, by rw [h _ (by omega) (by omega)]; exact h2, h3⟩
theorem keepB.rf {f : Nat → Int32} : keepB f f := fun _ _ _ => rfl
theorem keepB.tr {f g h : Nat → Int32} (h1 : keepB f g) (h2 : keepB g h) : keepB f h := fun j a b => (h2 j a b).trans (h1 j a b)
theorem keepB.bec {f : Nat → Int32} {P : Nat → Bool} {v : Nat → Int32} : keepB f (bec f P v) := fun j a b => bec_own (by omega) (by omega)
theorem keepB.upd {f : Nat → Int32} {j : Nat} {x : Int32} (h : j < 650 ∨ 666 ≤ j) : keepB f (upd f j x) := fun i a b => upd_n _ _ (by omega)
theorem keepB.bc1 {f : Nat → Int32} {s : Nat} {x : Int32} (h : s < 320) : keepB f (bc1 f s x) := by
  rw [bc1_bec h]
  exact keepB.bec
theorem keepB_gt : ∀ {n w : Nat} {f : Nat → Int32}, w + n ≤ 10 → keepB f (gt n w f).2
  | 0, _, _, _ => keepB.rf
  | n + 1, w, f, h => by
    rw [gt]
    by_cases c : f (640 + w) = nI 0
    · rw [if_pos c]
      cases ho : fi (lkP f) w with
      | none => exact ((keepB.upd (by omega) : keepB f (lkP f)).tr (keepB.upd (by omega))).tr (keepB_gt (by omega))
      | some s =>
        have := fi_lt ho
        exact (keepB.upd (by omega) : keepB f (lkP f)).tr (keepB.bc1 (by omega))
    · rw [if_neg c]
      exact keepB_gt (by omega)
theorem keepB_tk {f : Nat → Int32} : keepB f (tk f).2 := by
  have h0 : keepB f (gt 10 0 f).2 := keepB_gt (by omega)
  cases h1 : (gt 10 0 f).1 with
  | some s =>
    rw [tk_1 h1]
    exact h0
  | none =>
    by_cases h2 : 0 < clN (gt 10 0 f).2 10
    · rw [tk_2 h1 h2]
      exact (h0.tr keepB.bec).tr (keepB_gt (by omega))
    · rw [tk_3 h1 h2]
      exact h0.tr keepB.bec
theorem keepB_tmR : ∀ {j : Nat} {a : Int32} {g : Nat → Int32}, keepB g (tmR j a g).2
  | 0, _, _ => keepB.rf
  | j + 1, a, g => by
    rw [tmR]
    by_cases h : a < 0
    · rw [if_pos h]
      exact keepB.rf
    · rw [if_neg h]
      exact keepB_tk.tr keepB_tmR
theorem keepB_tm {f : Nat → Int32} {v : Int32} : keepB f (tmA f v).2 := by
  unfold tmA
  split
  · exact keepB_tmR
  · exact keepB.rf
theorem keepB_gb {f : Nat → Int32} {a b : Int32} : keepB f (gbA f a b).2 := by
  unfold gbA
  split
  · exact keepB.bec
  · exact keepB.rf
theorem keepB_cl {f : Nat → Int32} {v : Int32} : keepB f (clA f v).2 := by
  unfold clA
  split
  · exact keepB.bec
  · exact keepB.rf
theorem BInv_rs {f : Nat → Int32} {v : Int32} (hB : BInv f) : BInv (rsA f v).2 := by
  cases hs : szB v with
  | false => rw [rsA_n hs]; exact hB
  | true =>
    obtain ⟨z, rfl, hz⟩ := szB_t hs
    cases hu : ub f with
    | none => rw [rsA_0 hz (Or.inl hu)]; exact hB
    | some b =>
      cases hp : pl f z with
      | none => rw [rsA_0 hz (Or.inr hp)]; exact hB
      | some p =>
        rw [rsA_s hz hu hp]
        obtain ⟨h1, h2, -⟩ := pl_ok hz hp
        obtain ⟨-, hb, -⟩ := ls1_some hu
        have hk : ∀ j, 650 ≤ j → rsF (blk f b p z) b p z j = blk f b p z j := fun j hj => by
          unfold rsF
          rw [bec_own (by omega) (by omega)]
          unfold ow
          rw [if_neg (by omega)]
        intro k hk8 h0
        by_cases e : k = b
        · refine ⟨p, z, ?_, ?_, hz, h2, h1⟩
          · show rsF _ _ _ _ _ = _
            rw [hk _ (by omega), e]
            unfold blk
            rw [upd_n _ _ (by omega), upd_s]
          · show rsF _ _ _ _ _ = _
            rw [hk _ (by omega), e]
            unfold blk
            rw [upd_s]
        · have h3 : ∀ j, (j = 650 + 2 * k ∨ j = 650 + 2 * k + 1) → rsF (blk f b p z) b p z j = f j := fun j hj => by
            rw [hk j (by omega)]
            unfold blk
            rw [upd_n _ _ (by omega), upd_n _ _ (by omega)]
          have h0' : 0 < rsF (blk f b p z) b p z (650 + 2 * k + 1) := h0
          rw [h3 _ (Or.inr rfl)] at h0'
          obtain ⟨p', z', g1, g2, g3⟩ := hB k hk8 h0'
          exact ⟨p', z', (h3 _ (Or.inl rfl)).trans g1, (h3 _ (Or.inr rfl)).trans g2, g3⟩
theorem keepB_ti {f : Nat → Int32} {v : Int32} (hB : BInv f) : keepB f (tiA f v).2 := by
  cases hs : isB f v with
  | false => rw [tiA_n hs]; exact keepB.rf
  | true =>
    obtain ⟨k, hk, rfl, h0⟩ := isB_t hs
    obtain ⟨p, z, hp, hz, hok, hmod, hpz⟩ := hB k (by omega) h0
    rw [tiA_s hk hs hp hz hpz]
    cases hq : kp f p z with
    | none => exact keepB.rf
    | some s =>
      obtain ⟨-, h2, -, -⟩ := ls1_some hq
      exact keepB.bc1 (by omega)
theorem keepB_dm {f : Nat → Int32} {v : Int32} : keepB f (dmA f v).2 := by
  cases hs : inB v (nI 0) (nI 9) with
  | false => rw [dmA_n hs]; exact keepB.rf
  | true =>
    obtain ⟨w, -, hw, rfl⟩ := inB_nat (by decide) (by decide) hs
    rw [dmA_s hw]
    exact keepB.upd (by omega)
theorem keepB_rp {f : Nat → Int32} : keepB f (rpA f).2 := fun j a b => if_neg (by omega)
theorem BInv_do {f : Nat → Int32} {k : Nat} {x y : Int32} (hB : BInv f) : BInv (doA f k x y).2 := by
  unfold doA
  split
  · exact keepB_tm.inv hB
  · split
    · exact keepB_gb.inv hB
    · split
      · exact keepB_cl.inv hB
      · split
        · exact BInv_rs hB
        · split
          · exact (keepB_ti hB).inv hB
          · split
            · exact keepB_dm.inv hB
            · exact keepB_rp.inv hB
theorem roE_in {f t : Nat → Int32} {tl a k one other a2 : Nat} (hB : BInv f) : BInv (roE f t tl a k one other a2).2.2 ∧ ((roE f t tl a k one other a2).1 = true → (roE f t tl a k one other a2).2.1 = a2 + 1 ∧ a2 < tl) := by
  by_cases h : sg t tl a2 = nI 59
  · by_cases h2 : (doA f k (nI one) (nI other)).1 < 0
    · rw [roE_2 h h2]
      exact ⟨BInv_do hB, fun q => Bool.noConfusion q⟩
    · rw [roE_3 h h2]
      exact ⟨BInv_do hB, fun _ => ⟨rfl, sg_59 h (by decide) (by decide)⟩⟩
  · rw [roE_1 h]
    exact ⟨hB, fun q => Bool.noConfusion q⟩
theorem roF_in {f t : Nat → Int32} {tl a k one a1 : Nat} (hB : BInv f) : BInv (roF f t tl a k one a1).2.2 ∧ ((roF f t tl a k one a1).1 = true → a1 < (roF f t tl a k one a1).2.1 ∧ (roF f t tl a k one a1).2.1 ≤ tl) := by
  by_cases h : k = 102 ∧ sg t tl a1 = nI 45
  · cases h2 : dgB t tl (a1 + 1) with
    | true =>
      rw [roF_2 h.1 h.2 h2]
      obtain ⟨g1, g2⟩ := roE_in (t := t) (tl := tl) (a := a) (k := k) (one := one) (other := (nm t tl (a1 + 1)).1) (a2 := (nm t tl (a1 + 1)).2) hB
      have := nm_in h2
      exact ⟨g1, fun q => by
        obtain ⟨g3, g4⟩ := g2 q
        omega⟩
    | false =>
      rw [roF_3 h.1 h.2 h2]
      exact ⟨hB, fun q => Bool.noConfusion q⟩
  · have h' : ¬ k = 102 ∨ ¬ sg t tl a1 = nI 45 := by
      by_cases e : k = 102
      · exact Or.inr (fun q => h ⟨e, q⟩)
      · exact Or.inl e
    rw [roF_1 h']
    obtain ⟨g1, g2⟩ := roE_in (t := t) (tl := tl) (a := a) (k := k) (one := one) (other := one) (a2 := a1) hB
    exact ⟨g1, fun q => by
      obtain ⟨g3, g4⟩ := g2 q
      omega⟩
theorem ro_in {f t : Nat → Int32} {tl a : Nat} (hB : BInv f) : BInv (ro f t tl a).2.2 ∧ ((ro f t tl a).1 = true → a < (ro f t tl a).2.1 ∧ (ro f t tl a).2.1 ≤ tl) := by
  cases h : ltB (sg t tl a) with
  | false =>
    rw [ro_n h]
    exact ⟨hB, fun q => Bool.noConfusion q⟩
  | true =>
    obtain ⟨k, hk, hkk⟩ := ltB_t h
    rw [ro_k h hk (by omega)]
    by_cases c1 : k = 97 ∨ (k = 116 ∧ dgB t tl (a + 1) = false)
    · rw [roL_1 c1]
      obtain ⟨g1, g2⟩ := roF_in (t := t) (tl := tl) (a := a) (k := k) (one := 1) (a1 := a + 1) hB
      exact ⟨g1, fun q => by have := g2 q; omega⟩
    · cases h2 : dgB t tl (a + 1) with
      | true =>
        rw [roL_2 (fun q => c1 (Or.inl q)) h2]
        obtain ⟨g1, g2⟩ := roF_in (t := t) (tl := tl) (a := a) (k := k) (one := (nm t tl (a + 1)).1) (a1 := (nm t tl (a + 1)).2) hB
        have := nm_in h2
        exact ⟨g1, fun q => by have := g2 q; omega⟩
      | false =>
        rw [roL_3 (fun q => c1 (Or.inl q)) (fun q => c1 (Or.inr ⟨q, h2⟩)) h2]
        exact ⟨hB, fun q => Bool.noConfusion q⟩
