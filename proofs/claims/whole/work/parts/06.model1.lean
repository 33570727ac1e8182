/-! THE REFERENCE'S METHODS, by contract -/
/-- the cells of the reference -/
abbrev MW (h : Nat → Nat) (cI : ClassId) (now past : Nat → Int32) (pasts : Int32) (bef tri tex : Nat → Int32) (typed ati : Int32) : va_W :=
  [(h 0, .inr (4, [.ref (h 1), .ref (h 2), .int pasts, .ref (h 3), .ref (h 4), .ref (h 5), .int typed, .int ati])), (h 1, .inl (cI, 667, .inl now)), (h 2, .inl (cI, 3335, .inl past)), (h 3, .inl (cI, 667, .inl bef)), (h 4, .inl (cI, 667, .inl tri)), (h 5, .inl (cI, 80, .inl tex))]
theorem cpy_step {f g : Nat → Int32} {a b k : Nat} : upd (va_cpy f g a b k) (b + k) (f (a + k)) = va_cpy f g a b (k + 1) := by
  funext j
  unfold upd va_cpy
  by_cases e : j = b + k
  · rw [if_pos e, if_pos (by omega), e, show a + (b + k - b) = a + k by omega]
  · rw [if_neg e]
    by_cases e2 : b ≤ j ∧ j < b + k
    · rw [if_pos e2, if_pos (by omega)]
    · rw [if_neg e2, if_neg (by omega)]
theorem cpy_0 {f g : Nat → Int32} {a b : Nat} : g = va_cpy f g a b 0 := by
  funext j
  unfold va_cpy
  rw [if_neg (by omega)]
/-- the history with one state more -/
def psh (p : Nat → Int32) (k : Nat) (b : Nat → Int32) : Nat → Int32 := if k = 5 then va_cpy b (va_cpy p p 667 0 2668) 0 2668 667 else va_cpy b p 0 (667 * k) 667
def pn (k : Nat) : Nat := if k = 5 then 5 else k + 1
/-- what an action leaves of the slots and of the history: b before it, g behind it -/
def fnN (b g : Nat → Int32) (a : Int32) : Nat → Int32 := if a < 0 then b else g
def fnP (p : Nat → Int32) (k : Nat) (b : Nat → Int32) (a : Int32) : Nat → Int32 := if a < 0 then p else psh p k b
def fnK (k : Nat) (a : Int32) : Nat := if a < 0 then k else pn k
/-- one look more -/
def lkP (f : Nat → Int32) : Nat → Int32 := upd f 666 (f 666 + nI 1)
/-- the words are gone through -/
def gt : Nat → Nat → (Nat → Int32) → Option Nat × (Nat → Int32)
  | 0, _, f => (none, f)
  | n + 1, w, f => if f (640 + w) = nI 0 then (match fi (lkP f) w with
      | none => gt n (w + 1) (upd (lkP f) (640 + w) (nI 1))
      | some s => (some s, bc1 (lkP f) s (nI 1))) else gt n (w + 1) f
theorem gt_end {w : Nat} {g : Nat → Int32} (h : 10 ≤ w) : gt (10 - w) w g = (none, g) := by rw [show 10 - w = 0 by omega]; rfl
theorem gt_hid {w : Nat} {g : Nat → Int32} (h : w < 10) (c : ¬ g (640 + w) = nI 0) : gt (10 - w) w g = gt (10 - (w + 1)) (w + 1) g := by
  rw [show 10 - w = (10 - (w + 1)) + 1 by omega, gt, if_neg c]
theorem gt_full {w : Nat} {g : Nat → Int32} (h : w < 10) (c : g (640 + w) = nI 0) (ho : fi (lkP g) w = none) : gt (10 - w) w g = gt (10 - (w + 1)) (w + 1) (upd (lkP g) (640 + w) (nI 1)) := by
  rw [show 10 - w = (10 - (w + 1)) + 1 by omega, gt, if_pos c, ho]
theorem gt_found {w s : Nat} {g : Nat → Int32} (h : w < 10) (c : g (640 + w) = nI 0) (ho : fi (lkP g) w = some s) : gt (10 - w) w g = (some s, bc1 (lkP g) s (nI 1)) := by
  rw [show 10 - w = (10 - (w + 1)) + 1 by omega, gt, if_pos c, ho]
theorem fi_lt {f : Nat → Int32} {w s : Nat} (h : fi f w = some s) : 32 * w ≤ s ∧ s < 32 * w + 32 ∧ f s = nI 0 := by
  obtain ⟨h1, h2, h3, -⟩ := ls1_some h
  exact ⟨h1, h2, of_decide_eq_true h3⟩
theorem gt_lt : ∀ {n w : Nat} {f : Nat → Int32} {s : Nat}, (gt n w f).1 = some s → s < 32 * (w + n)
  | 0, _, _, _, h => by cases h
  | n + 1, w, f, s, h => by
    rw [gt] at h
    by_cases c : f (640 + w) = nI 0
    · rw [if_pos c] at h
      cases ho : fi (lkP f) w with
      | none =>
        rw [ho] at h
        have := gt_lt h
        omega
      | some s2 =>
        rw [ho] at h
        cases h
        have := fi_lt ho
        omega
    · rw [if_neg c] at h
      have := gt_lt h
      omega
theorem ne9 {s : Nat} (h : s < 1000) : ¬ nI s = -9 := fun e => by
  have := nI_pos (n := s) (by omega)
  rw [e] at this
  exact this (by decide)
theorem ne3 {s : Nat} (h : s < 1000) : ¬ nI s = -3 := fun e => by
  have := nI_pos (n := s) (by omega)
  rw [e] at this
  exact this (by decide)
theorem dor {p q r : Prop} [Decidable p] [Decidable q] [Decidable r] (h : p ↔ (q ∨ r)) : decide p = (decide q || decide r) := by
  rw [Bool.eq_iff_iff, Bool.or_eq_true, decide_eq_true_iff, decide_eq_true_iff, decide_eq_true_iff]
  exact h
theorem deq {p q : Prop} [Decidable p] [Decidable q] (h : p ↔ q) : decide p = decide q := by
  rw [Bool.eq_iff_iff, decide_eq_true_iff, decide_eq_true_iff]
  exact h
/-- how many words below w have lazy slots -/
def lzc (f : Nat → Int32) (w : Nat) : Nat := fb_ct (fun x => decide (0 < cw f x (nI 2))) w
/-- the words that are cleared -/
def selB (f : Nat → Int32) (n w : Nat) : Bool := decide (0 < cw f w (nI 2)) && decide (lzc f w < n)
/-- the slots that become free when n words are cleared, as far as the words below w, and the slots below sl of w -/
def clP (f : Nat → Int32) (n w sl : Nat) : Nat → Bool := fun j => (decide (j / 32 < w) && selB f n (j / 32) && decide (f j = nI 2)) || (decide (j / 32 = w) && decide (j < sl) && decide (f j = nI 2))
def clF (f : Nat → Int32) (n : Nat) : Nat → Int32 := bec f (clP f n 10 0) (fun _ => nI 0)
def clN (f : Nat → Int32) (n : Nat) : Nat := fb_sm (fun x => if selB f n x = true then cw f x (nI 2) else 0) 10
theorem clN_le (f : Nat → Int32) (n : Nat) : clN f n ≤ 320 := by
  refine Nat.le_trans (fb_sm_bound (c := 32) (fun k _ => ?_)) (by decide)
  have := cw_le f k (nI 2)
  split <;> omega
theorem clP_0 {f : Nat → Int32} {n j : Nat} (h : j < 320) : clP f n 0 0 j = false := by
  unfold clP
  simp
theorem cl_0 (f : Nat → Int32) (n : Nat) : f = bec f (clP f n 0 0) (fun _ => nI 0) := (bec_none (fun _ h => clP_0 h)).symm
theorem clP_in {f : Nat → Int32} {n w sl j : Nat} (h : j / 32 < w) : clP f n w sl j = (selB f n (j / 32) && decide (f j = nI 2)) := by
  unfold clP
  simp [h, show ¬ j / 32 = w by omega]
theorem clP_out {f : Nat → Int32} {n w sl j : Nat} (h : w < j / 32) : clP f n w sl j = false := by
  unfold clP
  simp [show ¬ j / 32 < w by omega, show ¬ j / 32 = w by omega]
theorem clP_at {f : Nat → Int32} {n w sl j : Nat} (h : j / 32 = w) : clP f n w sl j = (decide (j < sl) && decide (f j = nI 2)) := by
  unfold clP
  simp [h]
/-- behind the word's slots below sl, the slot sl is as it was -/
theorem cl_slot {f g : Nat → Int32} {n w sl : Nat} (hg : g = bec f (clP f n w sl) (fun _ => nI 0)) (h : sl < 320) (h2 : sl / 32 = w) : g sl = f sl := by
  rw [hg]
  exact bec_slot_n h (by rw [clP_at h2]; simp)
theorem cl_cw {f g : Nat → Int32} {n w : Nat} (hg : g = bec f (clP f n w (32 * w)) (fun _ => nI 0)) (h : w < 10) : cw g w (nI 2) = cw f w (nI 2) := by
  rw [hg]
  refine cw_cong (fun i hi => ?_)
  exact bec_slot_n (by omega) (by rw [clP_at (by omega)]; simp; omega)
theorem cl_skip {f g : Nat → Int32} {n w sl : Nat} (hg : g = bec f (clP f n w sl) (fun _ => nI 0)) (h : ¬ f sl = nI 2) : g = bec f (clP f n w (sl + 1)) (fun _ => nI 0) := by
  rw [hg]
  refine bec_cong (fun j hj => ?_) (fun _ _ _ => rfl)
  unfold clP
  congr 1
  by_cases e : j = sl
  · rw [e]; simp [h]
  · rw [deq (p := j < sl) (q := j < sl + 1) (by omega)]
theorem cl_take {f g : Nat → Int32} {n w sl : Nat} (hg : g = bec f (clP f n w sl) (fun _ => nI 0)) (hs : sl < 320) (hw : sl / 32 = w) (h : f sl = nI 2) : bc1 g sl (nI 0) = bec f (clP f n w (sl + 1)) (fun _ => nI 0) := by
  rw [hg]
  refine bec_add hs rfl (fun j hj => ?_)
  by_cases e : j = sl
  · rw [e, clP_at hw]; simp [h]
  · unfold clP
    rw [deq (p := j < sl) (q := j < sl + 1) (by omega)]
    simp [e]
theorem cw_pos {f : Nat → Int32} {w j : Nat} {k : Int32} (h : j / 32 = w) (hk : f j = k) : 0 < cw f w k := fb_ct_pos.mpr ⟨j % 32, by omega, by rw [show 32 * w + j % 32 = j by omega]; exact decide_eq_true hk⟩
theorem cl_next {f g : Nat → Int32} {n w : Nat} (hg : g = bec f (clP f n w (32 * w + 32)) (fun _ => nI 0)) (hl : lzc f w < n) : g = bec f (clP f n (w + 1) (32 * (w + 1))) (fun _ => nI 0) := by
  rw [hg]
  refine bec_cong (fun j hj => ?_) (fun _ _ _ => rfl)
  by_cases e : j / 32 < w
  · rw [clP_in e, clP_in (by omega)]
  · by_cases e2 : j / 32 = w
    · rw [clP_at e2, clP_in (by omega), e2]
      by_cases e3 : f j = nI 2
      · have := cw_pos e2 e3
        simp [e3, selB, this, hl]
        omega
      · simp [e3]
    · rw [clP_out (by omega)]
      by_cases e4 : j / 32 = w + 1
      · rw [clP_at e4]
        simp
        omega
      · rw [clP_out (by omega)]
theorem lzc_succ {f : Nat → Int32} {w : Nat} : lzc f (w + 1) = lzc f w + (if 0 < cw f w (nI 2) then 1 else 0) := by
  unfold lzc
  rw [fb_ct_succ]
  by_cases e : 0 < cw f w (nI 2) <;> simp [e]
def clS (f : Nat → Int32) (n w : Nat) : Nat := fb_sm (fun x => if selB f n x = true then cw f x (nI 2) else 0) w
theorem clS_succ {f : Nat → Int32} {n w : Nat} (hl : lzc f w < n) : clS f n (w + 1) = clS f n w + cw f w (nI 2) := by
  unfold clS
  rw [fb_sm_succ]
  by_cases e : 0 < cw f w (nI 2)
  · simp [selB, e, hl]
  · simp [selB, e]
    omega
theorem clS_le (f : Nat → Int32) (n w : Nat) (h : w ≤ 10) : clS f n w ≤ 320 := Nat.le_trans (fb_sm_bound (c := 32) (f := fun x => if selB f n x = true then cw f x (nI 2) else 0) (n := w) (fun k _ => by
    have := cw_le f k (nI 2)
    show (if selB f n k = true then cw f k (nI 2) else 0) ≤ 32
    split <;> omega)) (Nat.le_trans (Nat.mul_le_mul_right 32 h) (by decide))
theorem sel_off {f : Nat → Int32} {n w x : Nat} (h : n ≤ lzc f w) (hx : w ≤ x) : selB f n x = false := by
  have : lzc f w ≤ lzc f x := fb_ct_mono _ hx
  unfold selB
  simp
  omega
theorem cl_done {f g : Nat → Int32} {n w : Nat} (hg : g = bec f (clP f n w (32 * w)) (fun _ => nI 0)) (hw : w ≤ 10) (h : w = 10 ∨ n ≤ lzc f w) : g = clF f n := by
  rw [hg]
  refine bec_cong (fun j hj => ?_) (fun _ _ _ => rfl)
  rw [clP_in (w := 10) (by omega)]
  by_cases e : j / 32 < w
  · rw [clP_in e]
  · by_cases e2 : j / 32 = w
    · rw [clP_at e2]
      rcases h with h | h
      · omega
      · rw [sel_off h (by omega)]
        simp
        omega
    · rw [clP_out (by omega)]
      rcases h with h | h
      · omega
      · rw [sel_off h (by omega)]
        rfl
theorem clN_done {f : Nat → Int32} {n w : Nat} (hw : w ≤ 10) (h : w = 10 ∨ n ≤ lzc f w) : clS f n w = clN f n := by
  rcases h with h | h
  · rw [h]; rfl
  · obtain ⟨k, hk⟩ := Nat.le.dest hw
    unfold clS clN
    rw [← hk, fb_sm_split]
    have : fb_sm (fun x => if selB f n (w + x) = true then cw f (w + x) (nI 2) else 0) k = 0 := by
      have h2 := fb_sm_bound (f := fun x => if selB f n (w + x) = true then cw f (w + x) (nI 2) else 0) (c := 0) (n := k) (fun x _ => by rw [sel_off h (by omega)]; simp)
      omega
    omega
/-- one slot is taken -/
def tk (f : Nat → Int32) : Option Nat × (Nat → Int32) := match (gt 10 0 f).1 with
  | some s => (some s, (gt 10 0 f).2)
  | none => if 0 < clN (gt 10 0 f).2 10 then gt 10 0 (clF (gt 10 0 f).2 10) else (none, clF (gt 10 0 f).2 10)
theorem tk_1 {f : Nat → Int32} {s : Nat} (h : (gt 10 0 f).1 = some s) : tk f = (some s, (gt 10 0 f).2) := by unfold tk; rw [h]
theorem tk_2 {f : Nat → Int32} (h : (gt 10 0 f).1 = none) (h2 : 0 < clN (gt 10 0 f).2 10) : tk f = gt 10 0 (clF (gt 10 0 f).2 10) := by unfold tk; rw [h]; exact if_pos h2
theorem tk_3 {f : Nat → Int32} (h : (gt 10 0 f).1 = none) (h2 : ¬ 0 < clN (gt 10 0 f).2 10) : tk f = (none, clF (gt 10 0 f).2 10) := by unfold tk; rw [h]; exact if_neg h2
theorem tk_lt {f : Nat → Int32} {s : Nat} (h : (tk f).1 = some s) : s < 320 := by
  cases h1 : (gt 10 0 f).1 with
  | some s2 =>
    rw [tk_1 h1] at h
    cases h
    exact gt_lt h1
  | none =>
    by_cases h2 : 0 < clN (gt 10 0 f).2 10
    · rw [tk_2 h1 h2] at h
      exact gt_lt h
    · rw [tk_3 h1 h2] at h
      cases h
/-- all slots that are k -/
def tot (f : Nat → Int32) (k : Int32) : Nat := fb_sm (fun w => cw f w k) 10
theorem tot_le (f : Nat → Int32) (k : Int32) (w : Nat) (h : w ≤ 10) : fb_sm (fun w => cw f w k) w ≤ 320 := Nat.le_trans (Nat.le_trans (fb_sm_bound (c := 32) (fun x _ => cw_le f x k)) (Nat.mul_le_mul_right 32 h)) (by decide)
/-- the first run of m free slots, from sl on with a row of n free ones behind -/
def rn (f : Nat → Int32) (m : Nat) : Nat → Nat → Nat → Option Nat
  | 0, _, _ => none
  | k + 1, sl, n => if (if f sl = nI 0 then n + 1 else 0) = m then some (sl + 1 - m) else rn f m k (sl + 1) (if f sl = nI 0 then n + 1 else 0)
theorem rn_end {f : Nat → Int32} {m sl n : Nat} (h : 320 ≤ sl) : rn f m (320 - sl) sl n = none := by rw [show 320 - sl = 0 by omega]; rfl
theorem rn_yes {f : Nat → Int32} {m sl n n' : Nat} (h : sl < 320) (hn : (if f sl = nI 0 then n + 1 else 0) = n') (e : n' = m) : rn f m (320 - sl) sl n = some (sl + 1 - m) := by
  rw [show 320 - sl = (320 - (sl + 1)) + 1 by omega, rn, hn, if_pos e]
theorem rn_no {f : Nat → Int32} {m sl n n' : Nat} (h : sl < 320) (hn : (if f sl = nI 0 then n + 1 else 0) = n') (e : ¬ n' = m) : rn f m (320 - sl) sl n = rn f m (320 - (sl + 1)) (sl + 1) n' := by
  rw [show 320 - sl = (320 - (sl + 1)) + 1 by omega, rn, hn, if_neg e]
theorem le0_t {x : Int32} (h : 0 ≤ x) : ¬ x < 0 := by
  rw [Int32.lt_iff_toInt_lt]
  rw [Int32.le_iff_toInt_le] at h
  omega
theorem le0_f {x : Int32} (h : ¬ 0 ≤ x) : x < 0 := by
  rw [Int32.lt_iff_toInt_lt]
  rw [Int32.le_iff_toInt_le] at h
  omega
theorem psh_step {p g : Nat → Int32} {i : Nat} (hg : g = va_cpy p p 667 0 i) : upd g i (g (i + 667)) = va_cpy p p 667 0 (i + 1) := by
  rw [hg, pk_cpy_out (j := i + 667) (by omega), ← cpy_step, Nat.zero_add, Nat.add_comm i 667]
theorem subadd {a b : Nat} (h : b ≤ a + 1) : nI a - nI b + nI 1 = nI (a + 1 - b) := by
  rw [Int32.sub_eq_add_neg, Int32.add_assoc, Int32.add_comm (-nI b), ← Int32.add_assoc, nI_add, ← Int32.sub_eq_add_neg, pk_sub h]
set_option maxHeartbeats 4000000 in
set_option maxRecDepth 100000 in
theorem c_X4_in {l : Launch} {D : va_G} {cI cG cC cR : ClassId} {v lo hi : Int32} : CtI l yX4_in wsX4_in { frames := 0, cells := 0, slots := 0, locals := 0 } D (TY cI cG cC cR) [.int v, .int lo, .int hi] ([]) (fun (_ : Unit) => []) (fun (r : Int32) (_ : Unit) => r = bI (inB v lo hi)) := by
  refine CtI.of (cc := cX4_in) (maxL := 3) (ty := .boolean) (by decide) rfl (Nat.le_of_ble_eq_true rfl) ?_
  intro P0 e0 s0 m0 a0 b0 t0 c0 A0 Q0 ls F hK hP hD hA RETN hl
  obtain ⟨hx, hb, hml, hown, hts⟩ := id F
  have hS : va_S A0 s0.heap s0.heap [] := va_S.rf
  have hl : lv_has ls 3 [(0, .int v), (1, .int lo), (2, .int hi)] := hl
  refine lv_iload_n hx hb dX4_in_0 rfl (lv_at hl 0 rfl) ?_
  refine lv_iload_n hx hb dX4_in_1 rfl (lv_at hl 1 rfl) ?_
  refine lv_icmp_lt (tgt := 14) hx hb dX4_in_2 (by decide) (fun c2 => ?_) (fun c2 => ?_)
  · skip
    refine lv_iconst (v := (nI 0)) hx hb dX4_in_14 (by decide) ?_
    exact RETN _ _ (nI 0) () _ _ dX4_in_15 (rfl) (bI_f (inB_f1 c2)) hP hD hS
  · skip
    refine lv_iload_n hx hb dX4_in_5 rfl (lv_at hl 0 rfl) ?_
    refine lv_iload_n hx hb dX4_in_6 rfl (lv_at hl 2 rfl) ?_
    refine lv_icmp_gt (tgt := 14) hx hb dX4_in_7 (by decide) (fun c7 => ?_) (fun c7 => ?_)
    · skip
      refine lv_iconst (v := (nI 0)) hx hb dX4_in_14 (by decide) ?_
      exact RETN _ _ (nI 0) () _ _ dX4_in_15 (rfl) (bI_f (inB_f2 c7)) hP hD hS
    · skip
      refine lv_iconst (v := (nI 1)) hx hb dX4_in_10 (by decide) ?_
      refine lv_goto (tgt := 15) hx hb dX4_in_11 (by decide) ?_
      exact RETN _ _ (nI 1) () _ _ dX4_in_15 (rfl) (bI_t (inB_t c2 c7)) hP hD hS
set_option maxHeartbeats 4000000 in
set_option maxRecDepth 100000 in
theorem c_X4_inWord {l : Launch} {D : va_G} {cI cG cC cR : ClassId} {h : Nat → Nat} {now past bef tri tex : Nat → Int32} {pasts typed ati : Int32} {w : Nat} {k : Int32} (hw : w < 10) : CtI l yX4_inWord wsX4_inWord { frames := 0, cells := 0, slots := 0, locals := 0 } D (TY cI cG cC cR) [.ref (h 0), .int (nI w), .int k] (MW h cI now past pasts bef tri tex typed ati) (fun (_ : Unit) => MW h cI now past pasts bef tri tex typed ati) (fun (r : Int32) (_ : Unit) => r = nI (cw now w k)) := by
  refine CtI.of (cc := cX4_inWord) (maxL := 5) (ty := .int) (by decide) rfl (Nat.le_of_ble_eq_true rfl) ?_
  intro P0 e0 s0 m0 a0 b0 t0 c0 A0 Q0 ls F hK hP hD hA RETN hl
  obtain ⟨hx, hb, hml, hown, hts⟩ := id F
  have hS : va_S A0 s0.heap s0.heap [] := va_S.rf
  have hl : lv_has ls 5 [(0, .ref (h 0)), (1, .int (nI w)), (2, .int k)] := hl
  have lk7 := hts (.fieldLink RX4 7 "SlotMapsModel" "now" "[I") (by decide +kernel)
  have hI4 : ∀ w ∈ u_ws RX4 TX4 8, w ∈ wsX4_inWord := by decide +kernel
  refine lv_iconst (v := (nI 0)) hx hb dX4_inWord_0 (by decide) ?_
  refine lv_istore_n (lv' := [(3, .int (nI 0)), (0, .ref (h 0)), (1, .int (nI w)), (2, .int k)]) hx hb dX4_inWord_1 rfl hl (by decide) rfl (fun ls hl => ?_)
  refine lv_bipush (v := (nI 32)) hx hb dX4_inWord_2 (by decide) ?_
  refine lv_iload_n hx hb dX4_inWord_4 rfl (lv_at hl 2 rfl) ?_
  refine lv_imul hx hb dX4_inWord_5 ?_
  refine n_as (x' := nI (32 * w)) (pk_mul _ _) ?_
  refine lv_istore (lv' := [(4, .int (nI (32 * w))), (3, .int (nI 0)), (0, .ref (h 0)), (1, .int (nI w)), (2, .int k)]) hx hb dX4_inWord_6 hl (by decide) rfl (fun ls hl => ?_)
  have LP8 : ∀ (nn : Nat) (i : Nat) (n : Nat) (H : Heap) (locs : List Loc) (ls : Array Slot), i ≤ 32 → n = fb_ct (fun i => decide (now (32 * w + i) = k)) i → 32 - i < nn → va_P D vwCl (MW h cI now past pasts bef tri tex typed ati) H → va_D A0 (MW h cI now past pasts bef tri tex typed ati) → va_S A0 s0.heap H locs → lv_has ls 5 [(4, .int (nI (32 * w + i))), (3, .int (nI n)), (0, .ref (h 0)), (1, .int (nI w)), (2, .int k)] → W P0 l e0 { frames := 0, cells := 0, slots := 0, locals := 0 } s0 m0 a0 b0 t0 c0 H locs 0 0 Q0 (F0 m0 8 ls []) := by
    intro nn
    induction nn with
    | zero => intro i n H locs ls hi hn hmu; exact absurd hmu (Nat.not_lt_zero _)
    | succ nn ih8 =>
      intro i n H locs ls hi hn hmu8 hP hD hS hl
      refine lv_iload hx hb dX4_inWord_8 (lv_at hl 0 rfl) ?_
      refine lv_bipush (v := (nI 32)) hx hb dX4_inWord_10 (by decide) ?_
      refine lv_iload_n hx hb dX4_inWord_12 rfl (lv_at hl 3 rfl) ?_
      refine lv_imul hx hb dX4_inWord_13 ?_
      refine n_as (x' := nI (32 * w)) (pk_mul _ _) ?_
      refine lv_bipush (v := (nI 32)) hx hb dX4_inWord_14 (by decide) ?_
      refine lv_iadd hx hb dX4_inWord_16 ?_
      refine n_as (x' := nI ((32 * w) + 32)) (nI_add _ _) ?_
      refine lv_icmp_ge (tgt := 45) hx hb dX4_inWord_17 (by decide) (fun c17 => ?_) (fun c17 => ?_)
      · skip
        replace c17 : ((32 * w) + 32) ≤ (32 * w + i) := by rw [nI_leI (by omega) (by omega)] at c17; exact c17
        refine lv_iload_n hx hb dX4_inWord_45 rfl (lv_at hl 1 rfl) ?_
        exact RETN _ _ (nI n) () _ _ dX4_inWord_46 (rfl) (by rw [hn, show i = 32 by omega]; rfl) hP hD hS
      · skip
        replace c17 : ¬ (((32 * w) + 32) ≤ (32 * w + i)) := by rw [nI_leI (by omega) (by omega)] at c17; exact c17
        refine lv_iload_n hx hb dX4_inWord_20 rfl (lv_at hl 1 rfl) ?_
        refine lv_aload_n hx hb dX4_inWord_21 rfl (lv_at hl 2 rfl) ?_
        refine va_get (D := D) (ci := 4) (v := .ref (h 1)) (C := RX4) (T := TX4) (N := 8) hx hb hts hI4 hown hK.1 hP 0 rfl rfl 0 (by decide) lk7 (fun _ h9 => h9) rfl dX4_inWord_22 ?_
        refine lv_iload hx hb dX4_inWord_25 (lv_at hl 0 rfl) ?_
        refine n_iald hx hb hK hP 1 0 rfl rfl (by decide) (by omega) dX4_inWord_27 ?_
        refine lv_iload_n hx hb dX4_inWord_28 rfl (lv_at hl 4 rfl) ?_
        refine lv_icmp_ne (tgt := 36) hx hb dX4_inWord_29 (by decide) (fun c29 => ?_) (fun c29 => ?_)
        · skip
          refine lv_iconst (v := (nI 0)) hx hb dX4_inWord_36 (by decide) ?_
          refine lv_iadd hx hb dX4_inWord_37 ?_
          refine n_as (x' := nI (n + 0)) (nI_add _ _) ?_
          refine lv_istore_n (lv' := [(3, .int (nI (n + 0))), (4, .int (nI (32 * w + i))), (0, .ref (h 0)), (1, .int (nI w)), (2, .int k)]) hx hb dX4_inWord_38 rfl hl (by decide) rfl (fun ls hl => ?_)
          refine lv_iinc (v := (nI ((32 * w + i) + 1))) (lv' := [(4, .int (nI ((32 * w + i) + 1))), (3, .int (nI (n + 0))), (0, .ref (h 0)), (1, .int (nI w)), (2, .int k)]) hx hb dX4_inWord_39 hl (k := 1) rfl (n_inc1 _) (by decide) rfl (fun ls hl => ?_)
          refine lv_goto (tgt := 8) hx hb dX4_inWord_42 (by decide) ?_
          exact ih8 (i + 1) (n + 0) _ _ _ (by omega) (by rw [fb_ct_succ, ← hn]; simp [c29]) (by omega) hP hD hS (lv_sub hl [0, 1, 2, 3, 4] rfl)
        · skip
          refine lv_iconst (v := (nI 1)) hx hb dX4_inWord_32 (by decide) ?_
          refine lv_goto (tgt := 37) hx hb dX4_inWord_33 (by decide) ?_
          refine lv_iadd hx hb dX4_inWord_37 ?_
          refine n_as (x' := nI (n + 1)) (nI_add _ _) ?_
          refine lv_istore_n (lv' := [(3, .int (nI (n + 1))), (4, .int (nI (32 * w + i))), (0, .ref (h 0)), (1, .int (nI w)), (2, .int k)]) hx hb dX4_inWord_38 rfl hl (by decide) rfl (fun ls hl => ?_)
          refine lv_iinc (v := (nI ((32 * w + i) + 1))) (lv' := [(4, .int (nI ((32 * w + i) + 1))), (3, .int (nI (n + 1))), (0, .ref (h 0)), (1, .int (nI w)), (2, .int k)]) hx hb dX4_inWord_39 hl (k := 1) rfl (n_inc1 _) (by decide) rfl (fun ls hl => ?_)
          refine lv_goto (tgt := 8) hx hb dX4_inWord_42 (by decide) ?_
          exact ih8 (i + 1) (n + 1) _ _ _ (by omega) (by rw [fb_ct_succ, ← hn]; simp [c29]) (by omega) hP hD hS (lv_sub hl [0, 1, 2, 3, 4] rfl)
  exact LP8 _ 0 0 _ _ _ (by omega) (rfl) (Nat.lt_succ_self _) hP hD hS (lv_sub hl [0, 1, 2, 3, 4] rfl)
set_option maxHeartbeats 4000000 in
set_option maxRecDepth 100000 in
theorem c_X4_right {l : Launch} {D : va_G} {cI cG cC cR : ClassId} {h : Nat → Nat} {now past bef tri tex : Nat → Int32} {pasts typed ati : Int32} {w : Nat} (hw : w < 10) : CtI l yX4_right wsX4_right { frames := 1, cells := 0, slots := 0, locals := 24 } D (TY cI cG cC cR) [.ref (h 0), .int (nI w)] (MW h cI now past pasts bef tri tex typed ati) (fun (_ : Unit) => MW h cI now past pasts bef tri tex typed ati) (fun (r : Int32) (_ : Unit) => r = rt now w) := by
  refine CtI.of (cc := cX4_right) (maxL := 2) (ty := .int) (by decide) rfl (Nat.le_of_ble_eq_true rfl) ?_
  intro P0 e0 s0 m0 a0 b0 t0 c0 A0 Q0 ls F hK hP hD hA RETN hl
  obtain ⟨hx, hb, hml, hown, hts⟩ := id F
  have hS : va_S A0 s0.heap s0.heap [] := va_S.rf
  have hl : lv_has ls 2 [(0, .ref (h 0)), (1, .int (nI w))] := hl
  refine lv_aload_n hx hb dX4_right_0 rfl (lv_at hl 0 rfl) ?_
  refine lv_iload_n hx hb dX4_right_1 rfl (lv_at hl 1 rfl) ?_
  refine lv_iconst (v := (nI 0)) hx hb dX4_right_2 (by decide) ?_
  have hc := cw_le now w (nI 0)
  refine cl_Vi (b := (h 0)) (As := [.int (nI w), .int (nI 0)]) (rest := []) (wc := MW h cI now past pasts bef tri tex typed ati) (wsN := fun (_ : Unit) => MW h cI now past pasts bef tri tex typed ati) F hK hA hP hD hS (c_X4_inWord hw) (cwV 2 hts gX4_right_X4_inWord rfl rfl rfl (by decide +kernel) ⟨Nat.le_of_ble_eq_true rfl, Nat.le_of_ble_eq_true rfl⟩) [0, 1, 2, 3, 4, 5] [] [0, 1, 2, 3, 4, 5] ([]) rfl rfl (fun _ => rfl) (by decide) (by decide) 0 rfl rfl rfl hl.1 rfl (Nat.le_of_ble_eq_true rfl) ⟨Nat.zero_le _, Nat.zero_le _⟩ dX4_right_3 (fun r_2 _ H locs hw_1 hP hD hS => ?_)
  try dsimp only at hw_1 hP hD
  obtain rfl : r_2 = (nI (cw now w (nI 0))) := hw_1
  refine lv_if_ne (tgt := 13) hx hb dX4_right_6 (by decide) (fun c6 => ?_) (fun c6 => ?_)
  · skip
    replace c6 : ¬ (cw now w (nI 0)) = 0 := by rw [show (0 : Int32) = nI 0 from rfl, nI_eq (by omega) (by omega)] at c6; exact c6
    refine lv_iconst (v := (nI 0)) hx hb dX4_right_13 (by decide) ?_
    exact RETN _ _ (nI 0) () _ _ dX4_right_14 (rfl) (bI_f (by simp; omega)) hP hD hS
  · skip
    replace c6 : (cw now w (nI 0)) = 0 := by rw [show (0 : Int32) = nI 0 from rfl, nI_eq (by omega) (by omega)] at c6; exact c6
    refine lv_iconst (v := (nI 1)) hx hb dX4_right_9 (by decide) ?_
    refine lv_goto (tgt := 14) hx hb dX4_right_10 (by decide) ?_
    exact RETN _ _ (nI 1) () _ _ dX4_right_14 (rfl) (bI_t (by simp; omega)) hP hD hS
set_option maxHeartbeats 4000000 in
set_option maxRecDepth 100000 in
theorem c_X4_becomes {l : Launch} {D : va_G} {cI cG cC cR : ClassId} {h : Nat → Nat} {now past bef tri tex : Nat → Int32} {pasts typed ati : Int32} {sl : Nat} {v : Int32} (hs : sl < 320) : CtV l yX4_becomes wsX4_becomes { frames := 2, cells := 0, slots := 0, locals := 45 } D (TY cI cG cC cR) [.ref (h 0), .int (nI sl), .int v] (MW h cI now past pasts bef tri tex typed ati) (fun (_ : Unit) => MW h cI (bc1 now sl v) past pasts bef tri tex typed ati) (fun (_ : Unit) => True) := by
  refine CtV.of (cc := cX4_becomes) (maxL := 3) (by decide) rfl (Nat.le_of_ble_eq_true rfl) ?_
  intro P0 e0 s0 m0 a0 b0 t0 c0 A0 Q0 ls F hK hP hD hA RETN hl
  obtain ⟨hx, hb, hml, hown, hts⟩ := id F
  have hS : va_S A0 s0.heap s0.heap [] := va_S.rf
  have hl : lv_has ls 3 [(0, .ref (h 0)), (1, .int (nI sl)), (2, .int v)] := hl
  have lk7 := hts (.fieldLink RX4 7 "SlotMapsModel" "now" "[I") (by decide +kernel)
  have hI4 : ∀ w ∈ u_ws RX4 TX4 8, w ∈ wsX4_becomes := by decide +kernel
  refine lv_aload_n hx hb dX4_becomes_0 rfl (lv_at hl 0 rfl) ?_
  refine va_get (D := D) (ci := 4) (v := .ref (h 1)) (C := RX4) (T := TX4) (N := 8) hx hb hts hI4 hown hK.1 hP 0 rfl rfl 0 (by decide) lk7 (fun _ h9 => h9) rfl dX4_becomes_1 ?_
  refine lv_iload_n hx hb dX4_becomes_4 rfl (lv_at hl 1 rfl) ?_
  refine lv_iload_n hx hb dX4_becomes_5 rfl (lv_at hl 2 rfl) ?_
  refine n_iast hx hb hK hP hD hS 1 0 rfl rfl (by decide) (by omega) dX4_becomes_6 (wsN := MW h cI (upd now sl v) past pasts bef tri tex typed ati) rfl (fun H locs hP hD hS => ?_)
  refine lv_aload_n hx hb dX4_becomes_7 rfl (lv_at hl 0 rfl) ?_
  refine va_get (D := D) (ci := 4) (v := .ref (h 1)) (C := RX4) (T := TX4) (N := 8) hx hb hts hI4 hown hK.1 hP 0 rfl rfl 0 (by decide) lk7 (fun _ h9 => h9) rfl dX4_becomes_8 ?_
  refine lv_sipush (v := (nI 640)) hx hb dX4_becomes_11 (by decide) ?_
  refine lv_iload_n hx hb dX4_becomes_14 rfl (lv_at hl 1 rfl) ?_
  refine lv_bipush (v := (nI 32)) hx hb dX4_becomes_15 (by decide) ?_
  refine lv_idiv hx hb dX4_becomes_17 (nI_ne0 (by omega) (by omega)) ?_
  refine n_as (x' := nI (sl / 32)) (pk_div (by omega) (by omega) (by omega)) ?_
  refine lv_iadd hx hb dX4_becomes_18 ?_
  refine n_as (x' := nI (640 + (sl / 32))) (nI_add _ _) ?_
  refine lv_aload_n hx hb dX4_becomes_19 rfl (lv_at hl 0 rfl) ?_
  refine lv_iload_n hx hb dX4_becomes_20 rfl (lv_at hl 1 rfl) ?_
  refine lv_bipush (v := (nI 32)) hx hb dX4_becomes_21 (by decide) ?_
  refine lv_idiv hx hb dX4_becomes_23 (nI_ne0 (by omega) (by omega)) ?_
  refine n_as (x' := nI (sl / 32)) (pk_div (by omega) (by omega) (by omega)) ?_
  refine cl_Vi (b := (h 0)) (As := [.int (nI (sl / 32))]) (rest := [.int (nI (640 + (sl / 32))), .ref (h 1)]) (wc := MW h cI (upd now sl v) past pasts bef tri tex typed ati) (wsN := fun (_ : Unit) => MW h cI (upd now sl v) past pasts bef tri tex typed ati) F hK hA hP hD hS (c_X4_right (by omega)) (cwV 1 hts gX4_becomes_X4_right rfl rfl rfl (by decide +kernel) ⟨Nat.le_of_ble_eq_true rfl, Nat.le_of_ble_eq_true rfl⟩) [0, 1, 2, 3, 4, 5] [] [0, 1, 2, 3, 4, 5] ([]) rfl rfl (fun _ => rfl) (by decide) (by decide) 0 rfl rfl rfl hl.1 rfl (Nat.le_of_ble_eq_true rfl) ⟨Nat.zero_le _, Nat.zero_le _⟩ dX4_becomes_24 (fun r_2 _ H locs hw_1 hP hD hS => ?_)
  try dsimp only at hw_1 hP hD
  obtain rfl : r_2 = (rt (upd now sl v) (sl / 32)) := hw_1
  refine n_iast hx hb hK hP hD hS 1 0 rfl rfl (by decide) (by omega) dX4_becomes_27 (wsN := MW h cI (upd (upd now sl v) (640 + (sl / 32)) (rt (upd now sl v) (sl / 32))) past pasts bef tri tex typed ati) rfl (fun H locs hP hD hS => ?_)
  exact RETN _ _ () _ _ dX4_becomes_28 (trivial) hP hD hS
set_option maxHeartbeats 4000000 in
set_option maxRecDepth 100000 in
theorem c_X4_firstIn {l : Launch} {D : va_G} {cI cG cC cR : ClassId} {h : Nat → Nat} {now past bef tri tex : Nat → Int32} {pasts typed ati : Int32} {w : Nat} (hw : w < 10) : CtI l yX4_firstIn wsX4_firstIn { frames := 0, cells := 0, slots := 0, locals := 0 } D (TY cI cG cC cR) [.ref (h 0), .int (nI w)] (MW h cI now past pasts bef tri tex typed ati) (fun (_ : Unit) => MW h cI now past pasts bef tri tex typed ati) (fun (r : Int32) (_ : Unit) => r = oI (fi now w)) := by
  refine CtI.of (cc := cX4_firstIn) (maxL := 3) (ty := .int) (by decide) rfl (Nat.le_of_ble_eq_true rfl) ?_
  intro P0 e0 s0 m0 a0 b0 t0 c0 A0 Q0 ls F hK hP hD hA RETN hl
  obtain ⟨hx, hb, hml, hown, hts⟩ := id F
  have hS : va_S A0 s0.heap s0.heap [] := va_S.rf
  have hl : lv_has ls 3 [(0, .ref (h 0)), (1, .int (nI w))] := hl
  have lk7 := hts (.fieldLink RX4 7 "SlotMapsModel" "now" "[I") (by decide +kernel)
  have hI4 : ∀ w ∈ u_ws RX4 TX4 8, w ∈ wsX4_firstIn := by decide +kernel
  refine lv_bipush (v := (nI 32)) hx hb dX4_firstIn_0 (by decide) ?_
  refine lv_iload_n hx hb dX4_firstIn_2 rfl (lv_at hl 1 rfl) ?_
  refine lv_imul hx hb dX4_firstIn_3 ?_
  refine n_as (x' := nI (32 * w)) (pk_mul _ _) ?_
  refine lv_istore_n (lv' := [(2, .int (nI (32 * w))), (0, .ref (h 0)), (1, .int (nI w))]) hx hb dX4_firstIn_4 rfl hl (by decide) rfl (fun ls hl => ?_)
  have LP5 : ∀ (nn : Nat) (sl : Nat) (H : Heap) (locs : List Loc) (ls : Array Slot), 32 * w ≤ sl ∧ sl ≤ 32 * w + 32 → fi now w = ls1 (fr now) (32 * w + 32 - sl) sl → 32 * w + 32 - sl < nn → va_P D vwCl (MW h cI now past pasts bef tri tex typed ati) H → va_D A0 (MW h cI now past pasts bef tri tex typed ati) → va_S A0 s0.heap H locs → lv_has ls 3 [(2, .int (nI sl)), (0, .ref (h 0)), (1, .int (nI w))] → W P0 l e0 { frames := 0, cells := 0, slots := 0, locals := 0 } s0 m0 a0 b0 t0 c0 H locs 0 0 Q0 (F0 m0 5 ls []) := by
    intro nn
    induction nn with
    | zero => intro sl H locs ls hs ha hmu; exact absurd hmu (Nat.not_lt_zero _)
    | succ nn ih5 =>
      intro sl H locs ls hs ha hmu5 hP hD hS hl
      refine lv_iload_n hx hb dX4_firstIn_5 rfl (lv_at hl 0 rfl) ?_
      refine lv_bipush (v := (nI 32)) hx hb dX4_firstIn_6 (by decide) ?_
      refine lv_iload_n hx hb dX4_firstIn_8 rfl (lv_at hl 2 rfl) ?_
      refine lv_imul hx hb dX4_firstIn_9 ?_
      refine n_as (x' := nI (32 * w)) (pk_mul _ _) ?_
      refine lv_bipush (v := (nI 32)) hx hb dX4_firstIn_10 (by decide) ?_
      refine lv_iadd hx hb dX4_firstIn_12 ?_
      refine n_as (x' := nI ((32 * w) + 32)) (nI_add _ _) ?_
      refine lv_icmp_ge (tgt := 33) hx hb dX4_firstIn_13 (by decide) (fun c13 => ?_) (fun c13 => ?_)
      · skip
        replace c13 : ((32 * w) + 32) ≤ sl := by rw [nI_leI (by omega) (by omega)] at c13; exact c13
        refine lv_bipush (v := (-9)) hx hb dX4_firstIn_33 (by decide) ?_
        exact RETN _ _ (-9) () _ _ dX4_firstIn_35 (rfl) (by rw [ha, ls1_end _ (by omega)]; rfl) hP hD hS
      · skip
        replace c13 : ¬ (((32 * w) + 32) ≤ sl) := by rw [nI_leI (by omega) (by omega)] at c13; exact c13
        refine lv_aload_n hx hb dX4_firstIn_16 rfl (lv_at hl 1 rfl) ?_
        refine va_get (D := D) (ci := 4) (v := .ref (h 1)) (C := RX4) (T := TX4) (N := 8) hx hb hts hI4 hown hK.1 hP 0 rfl rfl 0 (by decide) lk7 (fun _ h9 => h9) rfl dX4_firstIn_17 ?_
        refine lv_iload_n hx hb dX4_firstIn_20 rfl (lv_at hl 0 rfl) ?_
        refine n_iald hx hb hK hP 1 0 rfl rfl (by decide) (by omega) dX4_firstIn_21 ?_
        refine lv_if_ne (tgt := 27) hx hb dX4_firstIn_22 (by decide) (fun c22 => ?_) (fun c22 => ?_)
        · skip
          replace c22 : ¬ (now sl) = nI 0 := c22
          refine lv_iinc (v := (nI (sl + 1))) (lv' := [(2, .int (nI (sl + 1))), (0, .ref (h 0)), (1, .int (nI w))]) hx hb dX4_firstIn_27 hl (k := 0) rfl (n_inc1 _) (by decide) rfl (fun ls hl => ?_)
          refine lv_goto (tgt := 5) hx hb dX4_firstIn_30 (by decide) ?_
          exact ih5 (sl + 1) _ _ _ (by omega) (by rw [ha, ls1_no (by omega) (by simp [fr, c22])]) (by omega) hP hD hS (lv_sub hl [0, 1, 2] rfl)
        · skip
          replace c22 : (now sl) = nI 0 := c22
          refine lv_iload_n hx hb dX4_firstIn_25 rfl (lv_at hl 0 rfl) ?_
          exact RETN _ _ (nI sl) () _ _ dX4_firstIn_26 (rfl) (by rw [ha, ls1_yes (by omega) (by simp [fr, c22])]; rfl) hP hD hS
  exact LP5 _ (32 * w) _ _ _ (by omega) (by unfold fi; rw [show 32 * w + 32 - 32 * w = 32 by omega]) (Nat.lt_succ_self _) hP hD hS (lv_sub hl [0, 1, 2] rfl)
set_option maxHeartbeats 4000000 in
set_option maxRecDepth 100000 in
theorem c_X4_copies {l : Launch} {D : va_G} {cI cG cC cR : ClassId} {aa bb nf nt ix jx : Nat} {f g : Nat → Int32} (h1 : ix + 667 ≤ nf) (h2 : jx + 667 ≤ nt) (h3 : nf ≤ 4000) (h4 : nt ≤ 4000) : CtV l yX4_copies wsX4_copies { frames := 0, cells := 0, slots := 0, locals := 0 } D (TY cI cG cC cR) [.ref aa, .int (nI ix), .ref bb, .int (nI jx)] ([(aa, .inl (cI, nf, .inl f)), (bb, .inl (cI, nt, .inl g))]) (fun (_ : Unit) => [(aa, .inl (cI, nf, .inl f)), (bb, .inl (cI, nt, .inl (va_cpy f g ix jx 667)))]) (fun (_ : Unit) => True) := by
  refine CtV.of (cc := cX4_copies) (maxL := 5) (by decide) rfl (Nat.le_of_ble_eq_true rfl) ?_
  intro P0 e0 s0 m0 a0 b0 t0 c0 A0 Q0 ls F hK hP hD hA RETN hl
  obtain ⟨hx, hb, hml, hown, hts⟩ := id F
  have hS : va_S A0 s0.heap s0.heap [] := va_S.rf
  have hl : lv_has ls 5 [(0, .ref aa), (1, .int (nI ix)), (2, .ref bb), (3, .int (nI jx))] := hl
  refine lv_iconst (v := (nI 0)) hx hb dX4_copies_0 (by decide) ?_
  refine lv_istore (lv' := [(4, .int (nI 0)), (0, .ref aa), (1, .int (nI ix)), (2, .ref bb), (3, .int (nI jx))]) hx hb dX4_copies_1 hl (by decide) rfl (fun ls hl => ?_)
  have LP3 : ∀ (nn : Nat) (k : Nat) (g2 : Nat → Int32) (H : Heap) (locs : List Loc) (ls : Array Slot), k ≤ 667 → g2 = va_cpy f g ix jx k → 667 - k < nn → va_P D vwCl ([(aa, .inl (cI, nf, .inl f)), (bb, .inl (cI, nt, .inl g2))]) H → va_D A0 ([(aa, .inl (cI, nf, .inl f)), (bb, .inl (cI, nt, .inl g2))]) → va_S A0 s0.heap H locs → lv_has ls 5 [(4, .int (nI k)), (0, .ref aa), (1, .int (nI ix)), (2, .ref bb), (3, .int (nI jx))] → W P0 l e0 { frames := 0, cells := 0, slots := 0, locals := 0 } s0 m0 a0 b0 t0 c0 H locs 0 0 Q0 (F0 m0 3 ls []) := by
    intro nn
    induction nn with
    | zero => intro k g2 H locs ls hk hg hmu; exact absurd hmu (Nat.not_lt_zero _)
    | succ nn ih3 =>
      intro k g2 H locs ls hk hg hmu3 hP hD hS hl
      refine lv_iload hx hb dX4_copies_3 (lv_at hl 0 rfl) ?_
      refine lv_sipush (v := (nI 667)) hx hb dX4_copies_5 (by decide) ?_
      refine lv_icmp_ge (tgt := 29) hx hb dX4_copies_8 (by decide) (fun c8 => ?_) (fun c8 => ?_)
      · skip
        replace c8 : 667 ≤ k := by rw [nI_leI (by omega) (by omega)] at c8; exact c8
        obtain rfl : k = 667 := by omega
        subst hg
        exact RETN _ _ () _ _ dX4_copies_29 (trivial) hP hD hS
      · skip
        replace c8 : ¬ (667 ≤ k) := by rw [nI_leI (by omega) (by omega)] at c8; exact c8
        refine lv_aload_n hx hb dX4_copies_11 rfl (lv_at hl 3 rfl) ?_
        refine lv_iload_n hx hb dX4_copies_12 rfl (lv_at hl 4 rfl) ?_
        refine lv_iload hx hb dX4_copies_13 (lv_at hl 0 rfl) ?_
        refine lv_iadd hx hb dX4_copies_15 ?_
        refine n_as (x' := nI (jx + k)) (nI_add _ _) ?_
        refine lv_aload_n hx hb dX4_copies_16 rfl (lv_at hl 1 rfl) ?_
        refine lv_iload_n hx hb dX4_copies_17 rfl (lv_at hl 2 rfl) ?_
        refine lv_iload hx hb dX4_copies_18 (lv_at hl 0 rfl) ?_
        refine lv_iadd hx hb dX4_copies_20 ?_
        refine n_as (x' := nI (ix + k)) (nI_add _ _) ?_
        refine n_iald hx hb hK hP 0 0 rfl rfl (by omega) (by omega) dX4_copies_21 ?_
        refine n_iast hx hb hK hP hD hS 1 0 rfl rfl (by omega) (by omega) dX4_copies_22 (wsN := [(aa, .inl (cI, nf, .inl f)), (bb, .inl (cI, nt, .inl (upd g2 (jx + k) (f (ix + k)))))]) rfl (fun H locs hP hD hS => ?_)
        refine lv_iinc (v := (nI (k + 1))) (lv' := [(4, .int (nI (k + 1))), (0, .ref aa), (1, .int (nI ix)), (2, .ref bb), (3, .int (nI jx))]) hx hb dX4_copies_23 hl (k := 0) rfl (n_inc1 _) (by decide) rfl (fun ls hl => ?_)
        refine lv_goto (tgt := 3) hx hb dX4_copies_26 (by decide) ?_
        exact ih3 (k + 1) (upd g2 (jx + k) (f (ix + k))) _ _ _ (by omega) (by rw [hg]; exact cpy_step) (by omega) hP hD hS (lv_sub hl [0, 1, 2, 3, 4] rfl)
  exact LP3 _ 0 g _ _ _ (by omega) (cpy_0) (Nat.lt_succ_self _) hP hD hS (lv_sub hl [0, 1, 2, 3, 4] rfl)
set_option maxHeartbeats 4000000 in
set_option maxRecDepth 100000 in
theorem c_X4_notes {l : Launch} {D : va_G} {cI cG cC cR : ClassId} {h : Nat → Nat} {now past bef tri tex : Nat → Int32} {pasts typed ati : Int32} : CtV l yX4_notes wsX4_notes { frames := 1, cells := 0, slots := 0, locals := 24 } D (TY cI cG cC cR) [.ref (h 0)] (MW h cI now past pasts bef tri tex typed ati) (fun (_ : Unit) => MW h cI now past pasts now tri tex typed ati) (fun (_ : Unit) => True) := by
  refine CtV.of (cc := cX4_notes) (maxL := 1) (by decide) rfl (Nat.le_of_ble_eq_true rfl) ?_
  intro P0 e0 s0 m0 a0 b0 t0 c0 A0 Q0 ls F hK hP hD hA RETN hl
  obtain ⟨hx, hb, hml, hown, hts⟩ := id F
  have hS : va_S A0 s0.heap s0.heap [] := va_S.rf
  have hl : lv_has ls 1 [(0, .ref (h 0))] := hl
  have lk16 := hts (.fieldLink RX4 16 "SlotMapsModel" "before" "[I") (by decide +kernel)
  have lk7 := hts (.fieldLink RX4 7 "SlotMapsModel" "now" "[I") (by decide +kernel)
  have hI4 : ∀ w ∈ u_ws RX4 TX4 8, w ∈ wsX4_notes := by decide +kernel
  refine lv_aload_n hx hb dX4_notes_0 rfl (lv_at hl 0 rfl) ?_
  refine va_get (D := D) (ci := 4) (v := .ref (h 1)) (C := RX4) (T := TX4) (N := 8) hx hb hts hI4 hown hK.1 hP 0 rfl rfl 0 (by decide) lk7 (fun _ h9 => h9) rfl dX4_notes_1 ?_
  refine lv_iconst (v := (nI 0)) hx hb dX4_notes_4 (by decide) ?_
  refine lv_aload_n hx hb dX4_notes_5 rfl (lv_at hl 0 rfl) ?_
  refine va_get (D := D) (ci := 4) (v := .ref (h 3)) (C := RX4) (T := TX4) (N := 8) hx hb hts hI4 hown hK.1 hP 0 rfl rfl 3 (by decide) lk16 (fun _ h9 => h9) rfl dX4_notes_6 ?_
  refine lv_iconst (v := (nI 0)) hx hb dX4_notes_9 (by decide) ?_
  refine cl_Sv (As := [.ref (h 1), .int (nI 0), .ref (h 3), .int (nI 0)]) (rest := []) (wc := [(h 1, .inl (cI, 667, .inl now)), (h 3, .inl (cI, 667, .inl bef))]) (wsN := fun (_ : Unit) => MW h cI now past pasts (va_cpy now bef 0 0 667) tri tex typed ati) F hK hA hP hD hS (c_X4_copies (by omega) (by omega) (by omega) (by omega)) (va_cwS 4 hts gX4_notes_X4_copies rfl rfl rfl (by decide +kernel) ⟨Nat.le_of_ble_eq_true rfl, Nat.le_of_ble_eq_true rfl⟩) [1, 3] [0, 2, 4, 5] [0, 4, 1, 5, 2, 3] ([(h 0, .inr (4, [.ref (h 1), .ref (h 2), .int pasts, .ref (h 3), .ref (h 4), .ref (h 5), .int typed, .int ati])), (h 2, .inl (cI, 3335, .inl past)), (h 4, .inl (cI, 667, .inl tri)), (h 5, .inl (cI, 80, .inl tex))]) rfl rfl (fun _ => rfl) (by decide) (by decide) rfl hl.1 rfl (Nat.le_of_ble_eq_true rfl) ⟨Nat.zero_le _, Nat.zero_le _⟩ dX4_notes_10 (fun _ H locs hw_1 hP hD hS => ?_)
  try dsimp only at hw_1 hP hD
  have hP := vc_arr (g := now) (wsN := MW h cI now past pasts now tri tex typed ati) 3 rfl (fun j hj => sb_cpy0 hj) rfl hP
  have hD := vc_arrD (g := now) (wsN := MW h cI now past pasts now tri tex typed ati) 3 rfl rfl hD
  exact RETN _ _ () _ _ dX4_notes_13 (trivial) hP hD hS
set_option maxHeartbeats 4000000 in
set_option maxRecDepth 100000 in
theorem c_X4_ends {l : Launch} {D : va_G} {cI cG cC cR : ClassId} {h : Nat → Nat} {now past bef tri tex : Nat → Int32} {typed ati : Int32} {k : Nat} {ans : Int32} (hk : k ≤ 5) : CtI l yX4_ends wsX4_ends { frames := 1, cells := 0, slots := 0, locals := 24 } D (TY cI cG cC cR) [.ref (h 0), .int ans] (MW h cI now past (nI k) bef tri tex typed ati) (fun (_ : Unit) => MW h cI (fnN bef now ans) (fnP past k bef ans) (nI (fnK k ans)) bef tri tex typed ati) (fun (r : Int32) (_ : Unit) => r = ans) := by
  refine CtI.of (cc := cX4_ends) (maxL := 3) (ty := .int) (by decide) rfl (Nat.le_of_ble_eq_true rfl) ?_
  intro P0 e0 s0 m0 a0 b0 t0 c0 A0 Q0 ls F hK hP hD hA RETN hl
  obtain ⟨hx, hb, hml, hown, hts⟩ := id F
  have hS : va_S A0 s0.heap s0.heap [] := va_S.rf
  have hl : lv_has ls 3 [(0, .ref (h 0)), (1, .int ans)] := hl
  have lk13 := hts (.fieldLink RX4 13 "SlotMapsModel" "past" "[I") (by decide +kernel)
  have lk16 := hts (.fieldLink RX4 16 "SlotMapsModel" "before" "[I") (by decide +kernel)
  have lk29 := hts (.fieldLink RX4 29 "SlotMapsModel" "pasts" "I") (by decide +kernel)
  have lk7 := hts (.fieldLink RX4 7 "SlotMapsModel" "now" "[I") (by decide +kernel)
  have hI4 : ∀ w ∈ u_ws RX4 TX4 8, w ∈ wsX4_ends := by decide +kernel
  refine lv_iload_n hx hb dX4_ends_0 rfl (lv_at hl 1 rfl) ?_
  refine lv_if_ge (tgt := 19) hx hb dX4_ends_1 (by decide) (fun c1 => ?_) (fun c1 => ?_)
  · skip
    replace c1 : ¬ ans < 0 := le0_t c1
    refine lv_aload_n hx hb dX4_ends_19 rfl (lv_at hl 0 rfl) ?_
    refine va_get (D := D) (ci := 4) (v := .int (nI k)) (C := RX4) (T := TX4) (N := 8) hx hb hts hI4 hown hK.1 hP 0 rfl rfl 2 (by decide) lk29 (fun _ h9 => h9) rfl dX4_ends_20 ?_
    refine lv_iconst (v := (nI 5)) hx hb dX4_ends_23 (by decide) ?_
    refine lv_icmp_ne (tgt := 63) hx hb dX4_ends_24 (by decide) (fun c24 => ?_) (fun c24 => ?_)
    · skip
      replace c24 : ¬ k = 5 := by rw [nI_eq (by omega) (by omega)] at c24; exact c24
      refine lv_aload_n hx hb dX4_ends_63 rfl (lv_at hl 0 rfl) ?_
      refine va_get (D := D) (ci := 4) (v := .ref (h 3)) (C := RX4) (T := TX4) (N := 8) hx hb hts hI4 hown hK.1 hP 0 rfl rfl 3 (by decide) lk16 (fun _ h9 => h9) rfl dX4_ends_64 ?_
      refine lv_iconst (v := (nI 0)) hx hb dX4_ends_67 (by decide) ?_
      refine lv_aload_n hx hb dX4_ends_68 rfl (lv_at hl 0 rfl) ?_
      refine va_get (D := D) (ci := 4) (v := .ref (h 2)) (C := RX4) (T := TX4) (N := 8) hx hb hts hI4 hown hK.1 hP 0 rfl rfl 1 (by decide) lk13 (fun _ h9 => h9) rfl dX4_ends_69 ?_
      refine lv_aload_n hx hb dX4_ends_72 rfl (lv_at hl 0 rfl) ?_
      refine va_get (D := D) (ci := 4) (v := .int (nI k)) (C := RX4) (T := TX4) (N := 8) hx hb hts hI4 hown hK.1 hP 0 rfl rfl 2 (by decide) lk29 (fun _ h9 => h9) rfl dX4_ends_73 ?_
      refine lv_sipush (v := (nI 667)) hx hb dX4_ends_76 (by decide) ?_
      refine lv_imul hx hb dX4_ends_79 ?_
      refine n_as (x' := nI (k * 667)) (pk_mul _ _) ?_
      refine cl_Sv (As := [.ref (h 3), .int (nI 0), .ref (h 2), .int (nI (k * 667))]) (rest := []) (wc := [(h 3, .inl (cI, 667, .inl bef)), (h 2, .inl (cI, 3335, .inl past))]) (wsN := fun (_ : Unit) => MW h cI now (va_cpy bef past 0 (k * 667) 667) (nI k) bef tri tex typed ati) F hK hA hP hD hS (c_X4_copies (by omega) (by omega) (by omega) (by omega)) (va_cwS 4 hts gX4_ends_X4_copies rfl rfl rfl (by decide +kernel) ⟨Nat.le_of_ble_eq_true rfl, Nat.le_of_ble_eq_true rfl⟩) [3, 2] [0, 1, 4, 5] [0, 1, 5, 4, 2, 3] ([(h 0, .inr (4, [.ref (h 1), .ref (h 2), .int (nI k), .ref (h 3), .ref (h 4), .ref (h 5), .int typed, .int ati])), (h 1, .inl (cI, 667, .inl now)), (h 4, .inl (cI, 667, .inl tri)), (h 5, .inl (cI, 80, .inl tex))]) rfl rfl (fun _ => rfl) (by decide) (by decide) rfl hl.1 rfl (Nat.le_of_ble_eq_true rfl) ⟨Nat.zero_le _, Nat.zero_le _⟩ dX4_ends_80 (fun _ H locs hw_1 hP hD hS => ?_)
      try dsimp only at hw_1 hP hD
      refine lv_aload_n hx hb dX4_ends_83 rfl (lv_at hl 0 rfl) ?_
      refine lv_dup hx hb dX4_ends_84 rfl ?_
      refine va_get (D := D) (ci := 4) (v := .int (nI k)) (C := RX4) (T := TX4) (N := 8) hx hb hts hI4 hown hK.1 hP 0 rfl rfl 2 (by decide) lk29 (fun _ h9 => h9) rfl dX4_ends_85 ?_
      refine lv_iconst (v := (nI 1)) hx hb dX4_ends_88 (by decide) ?_
      refine lv_iadd hx hb dX4_ends_89 ?_
      refine n_as (x' := nI (k + 1)) (nI_add _ _) ?_
      refine va_put (D := D) (ci := 4) (v := .int (nI (k + 1))) (ty := .int) (C := RX4) (T := TX4) (N := 8) hx hb hts hI4 tyX4 tyX4_ok nmX4 hown hK.1 hP hD hS 0 rfl rfl 2 (by decide) lk29 (fun _ h9 => h9) rfl (by decide +kernel) rfl rfl (Nat.le_of_ble_eq_true rfl) dX4_ends_90 (fun H locs hP hD hS => ?_)
      have hP : va_P D vwCl (MW h cI now (va_cpy bef past 0 (k * 667) 667) (nI (k + 1)) bef tri tex typed ati) H := hP
      have hD : va_D A0 (MW h cI now (va_cpy bef past 0 (k * 667) 667) (nI (k + 1)) bef tri tex typed ati) := hD
      have e1 : fnN bef now ans = now := if_neg c1
      have e2 : fnP past k bef ans = (va_cpy bef past 0 (k * 667) 667) := by rw [fnP, if_neg c1, psh, if_neg c24, Nat.mul_comm]
      have e3 : fnK k ans = (k + 1) := by rw [fnK, if_neg c1, pn, if_neg c24]
      have hP : va_P D vwCl (MW h cI (fnN bef now ans) (fnP past k bef ans) (nI (fnK k ans)) bef tri tex typed ati) H := by rw [e1, e2, e3]; exact hP
      have hD : va_D A0 (MW h cI (fnN bef now ans) (fnP past k bef ans) (nI (fnK k ans)) bef tri tex typed ati) := by rw [e1, e2, e3]; exact hD
      refine lv_iload_n hx hb dX4_ends_93 rfl (lv_at hl 1 rfl) ?_
      exact RETN _ _ ans () _ _ dX4_ends_94 (rfl) (rfl) hP hD hS
    · skip
      replace c24 : k = 5 := by rw [nI_eq (by omega) (by omega)] at c24; exact c24
      refine lv_iconst (v := (nI 0)) hx hb dX4_ends_27 (by decide) ?_
      refine lv_istore_n (lv' := [(2, .int (nI 0)), (0, .ref (h 0)), (1, .int ans)]) hx hb dX4_ends_28 rfl hl (by decide) rfl (fun ls hl => ?_)
      have LP29 : ∀ (nn : Nat) (i : Nat) (g2 : Nat → Int32) (H : Heap) (locs : List Loc) (ls : Array Slot), i ≤ 2668 → g2 = va_cpy past past 667 0 i → 2668 - i < nn → va_P D vwCl (MW h cI now g2 (nI k) bef tri tex typed ati) H → va_D A0 (MW h cI now g2 (nI k) bef tri tex typed ati) → va_S A0 s0.heap H locs → lv_has ls 3 [(2, .int (nI i)), (0, .ref (h 0)), (1, .int ans)] → W P0 l e0 { frames := 1, cells := 0, slots := 0, locals := 24 } s0 m0 a0 b0 t0 c0 H locs 0 0 Q0 (F0 m0 29 ls []) := by
        intro nn
        induction nn with
        | zero => intro i g2 H locs ls hi hg hmu; exact absurd hmu (Nat.not_lt_zero _)
        | succ nn ih29 =>
          intro i g2 H locs ls hi hg hmu29 hP hD hS hl
          refine lv_iload_n hx hb dX4_ends_29 rfl (lv_at hl 0 rfl) ?_
          refine lv_sipush (v := (nI 2668)) hx hb dX4_ends_30 (by decide) ?_
          refine lv_icmp_ge (tgt := 58) hx hb dX4_ends_33 (by decide) (fun c33 => ?_) (fun c33 => ?_)
          · skip
            replace c33 : 2668 ≤ i := by rw [nI_leI (by omega) (by omega)] at c33; exact c33
            refine lv_aload_n hx hb dX4_ends_58 rfl (lv_at hl 1 rfl) ?_
            refine lv_iconst (v := (nI 4)) hx hb dX4_ends_59 (by decide) ?_
            refine va_put (D := D) (ci := 4) (v := .int (nI 4)) (ty := .int) (C := RX4) (T := TX4) (N := 8) hx hb hts hI4 tyX4 tyX4_ok nmX4 hown hK.1 hP hD hS 0 rfl rfl 2 (by decide) lk29 (fun _ h9 => h9) rfl (by decide +kernel) rfl rfl (Nat.le_of_ble_eq_true rfl) dX4_ends_60 (fun H locs hP hD hS => ?_)
            have hP : va_P D vwCl (MW h cI now g2 (nI 4) bef tri tex typed ati) H := hP
            have hD : va_D A0 (MW h cI now g2 (nI 4) bef tri tex typed ati) := hD
            refine lv_aload_n hx hb dX4_ends_63 rfl (lv_at hl 1 rfl) ?_
            refine va_get (D := D) (ci := 4) (v := .ref (h 3)) (C := RX4) (T := TX4) (N := 8) hx hb hts hI4 hown hK.1 hP 0 rfl rfl 3 (by decide) lk16 (fun _ h9 => h9) rfl dX4_ends_64 ?_
            refine lv_iconst (v := (nI 0)) hx hb dX4_ends_67 (by decide) ?_
            refine lv_aload_n hx hb dX4_ends_68 rfl (lv_at hl 1 rfl) ?_
            refine va_get (D := D) (ci := 4) (v := .ref (h 2)) (C := RX4) (T := TX4) (N := 8) hx hb hts hI4 hown hK.1 hP 0 rfl rfl 1 (by decide) lk13 (fun _ h9 => h9) rfl dX4_ends_69 ?_
            refine lv_aload_n hx hb dX4_ends_72 rfl (lv_at hl 1 rfl) ?_
            refine va_get (D := D) (ci := 4) (v := .int (nI 4)) (C := RX4) (T := TX4) (N := 8) hx hb hts hI4 hown hK.1 hP 0 rfl rfl 2 (by decide) lk29 (fun _ h9 => h9) rfl dX4_ends_73 ?_
            refine lv_sipush (v := (nI 667)) hx hb dX4_ends_76 (by decide) ?_
            refine lv_imul hx hb dX4_ends_79 ?_
            refine n_as (x' := nI 2668) (by decide) ?_
            refine cl_Sv (As := [.ref (h 3), .int (nI 0), .ref (h 2), .int (nI 2668)]) (rest := []) (wc := [(h 3, .inl (cI, 667, .inl bef)), (h 2, .inl (cI, 3335, .inl g2))]) (wsN := fun (_ : Unit) => MW h cI now (va_cpy bef g2 0 2668 667) (nI 4) bef tri tex typed ati) F hK hA hP hD hS (c_X4_copies (by omega) (by omega) (by omega) (by omega)) (va_cwS 4 hts gX4_ends_X4_copies rfl rfl rfl (by decide +kernel) ⟨Nat.le_of_ble_eq_true rfl, Nat.le_of_ble_eq_true rfl⟩) [3, 2] [0, 1, 4, 5] [0, 1, 5, 4, 2, 3] ([(h 0, .inr (4, [.ref (h 1), .ref (h 2), .int (nI 4), .ref (h 3), .ref (h 4), .ref (h 5), .int typed, .int ati])), (h 1, .inl (cI, 667, .inl now)), (h 4, .inl (cI, 667, .inl tri)), (h 5, .inl (cI, 80, .inl tex))]) rfl rfl (fun _ => rfl) (by decide) (by decide) rfl hl.1 rfl (Nat.le_of_ble_eq_true rfl) ⟨Nat.zero_le _, Nat.zero_le _⟩ dX4_ends_80 (fun _ H locs hw_3 hP hD hS => ?_)
            try dsimp only at hw_3 hP hD
            refine lv_aload_n hx hb dX4_ends_83 rfl (lv_at hl 1 rfl) ?_
            refine lv_dup hx hb dX4_ends_84 rfl ?_
            refine va_get (D := D) (ci := 4) (v := .int (nI 4)) (C := RX4) (T := TX4) (N := 8) hx hb hts hI4 hown hK.1 hP 0 rfl rfl 2 (by decide) lk29 (fun _ h9 => h9) rfl dX4_ends_85 ?_
            refine lv_iconst (v := (nI 1)) hx hb dX4_ends_88 (by decide) ?_
            refine lv_iadd hx hb dX4_ends_89 ?_
            refine n_as (x' := nI 5) (by decide) ?_
            refine va_put (D := D) (ci := 4) (v := .int (nI 5)) (ty := .int) (C := RX4) (T := TX4) (N := 8) hx hb hts hI4 tyX4 tyX4_ok nmX4 hown hK.1 hP hD hS 0 rfl rfl 2 (by decide) lk29 (fun _ h9 => h9) rfl (by decide +kernel) rfl rfl (Nat.le_of_ble_eq_true rfl) dX4_ends_90 (fun H locs hP hD hS => ?_)
            have hP : va_P D vwCl (MW h cI now (va_cpy bef g2 0 2668 667) (nI 5) bef tri tex typed ati) H := hP
            have hD : va_D A0 (MW h cI now (va_cpy bef g2 0 2668 667) (nI 5) bef tri tex typed ati) := hD
            have e1 : fnN bef now ans = now := if_neg c1
            have e2 : fnP past k bef ans = (va_cpy bef g2 0 2668 667) := by rw [fnP, if_neg c1, psh, if_pos c24, hg, show i = 2668 by omega]
            have e3 : fnK k ans = 5 := by rw [fnK, if_neg c1, pn, if_pos c24]
            have hP : va_P D vwCl (MW h cI (fnN bef now ans) (fnP past k bef ans) (nI (fnK k ans)) bef tri tex typed ati) H := by rw [e1, e2, e3]; exact hP
            have hD : va_D A0 (MW h cI (fnN bef now ans) (fnP past k bef ans) (nI (fnK k ans)) bef tri tex typed ati) := by rw [e1, e2, e3]; exact hD
            refine lv_iload_n hx hb dX4_ends_93 rfl (lv_at hl 2 rfl) ?_
            exact RETN _ _ ans () _ _ dX4_ends_94 (rfl) (rfl) hP hD hS
          · skip
            replace c33 : ¬ (2668 ≤ i) := by rw [nI_leI (by omega) (by omega)] at c33; exact c33
            refine lv_aload_n hx hb dX4_ends_36 rfl (lv_at hl 1 rfl) ?_
            refine va_get (D := D) (ci := 4) (v := .ref (h 2)) (C := RX4) (T := TX4) (N := 8) hx hb hts hI4 hown hK.1 hP 0 rfl rfl 1 (by decide) lk13 (fun _ h9 => h9) rfl dX4_ends_37 ?_
            refine lv_iload_n hx hb dX4_ends_40 rfl (lv_at hl 0 rfl) ?_
            refine lv_aload_n hx hb dX4_ends_41 rfl (lv_at hl 1 rfl) ?_
            refine va_get (D := D) (ci := 4) (v := .ref (h 2)) (C := RX4) (T := TX4) (N := 8) hx hb hts hI4 hown hK.1 hP 0 rfl rfl 1 (by decide) lk13 (fun _ h9 => h9) rfl dX4_ends_42 ?_
            refine lv_iload_n hx hb dX4_ends_45 rfl (lv_at hl 0 rfl) ?_
            refine lv_sipush (v := (nI 667)) hx hb dX4_ends_46 (by decide) ?_
            refine lv_iadd hx hb dX4_ends_49 ?_
            refine n_as (x' := nI (i + 667)) (nI_add _ _) ?_
            refine n_iald hx hb hK hP 2 0 rfl rfl (by decide) (by omega) dX4_ends_50 ?_
            refine n_iast hx hb hK hP hD hS 2 0 rfl rfl (by decide) (by omega) dX4_ends_51 (wsN := MW h cI now (upd g2 i (g2 (i + 667))) (nI k) bef tri tex typed ati) rfl (fun H locs hP hD hS => ?_)
            refine lv_iinc (v := (nI (i + 1))) (lv' := [(2, .int (nI (i + 1))), (0, .ref (h 0)), (1, .int ans)]) hx hb dX4_ends_52 hl (k := 0) rfl (n_inc1 _) (by decide) rfl (fun ls hl => ?_)
            refine lv_goto (tgt := 29) hx hb dX4_ends_55 (by decide) ?_
            exact ih29 (i + 1) (upd g2 i (g2 (i + 667))) _ _ _ (by omega) (psh_step hg) (by omega) hP hD hS (lv_sub hl [0, 1, 2] rfl)
      exact LP29 _ 0 past _ _ _ (by omega) (cpy_0) (Nat.lt_succ_self _) hP hD hS (lv_sub hl [0, 1, 2] rfl)
  · skip
    replace c1 : ans < 0 := le0_f c1
    refine lv_aload_n hx hb dX4_ends_4 rfl (lv_at hl 0 rfl) ?_
    refine va_get (D := D) (ci := 4) (v := .ref (h 3)) (C := RX4) (T := TX4) (N := 8) hx hb hts hI4 hown hK.1 hP 0 rfl rfl 3 (by decide) lk16 (fun _ h9 => h9) rfl dX4_ends_5 ?_
    refine lv_iconst (v := (nI 0)) hx hb dX4_ends_8 (by decide) ?_
    refine lv_aload_n hx hb dX4_ends_9 rfl (lv_at hl 0 rfl) ?_
    refine va_get (D := D) (ci := 4) (v := .ref (h 1)) (C := RX4) (T := TX4) (N := 8) hx hb hts hI4 hown hK.1 hP 0 rfl rfl 0 (by decide) lk7 (fun _ h9 => h9) rfl dX4_ends_10 ?_
    refine lv_iconst (v := (nI 0)) hx hb dX4_ends_13 (by decide) ?_
    refine cl_Sv (As := [.ref (h 3), .int (nI 0), .ref (h 1), .int (nI 0)]) (rest := []) (wc := [(h 3, .inl (cI, 667, .inl bef)), (h 1, .inl (cI, 667, .inl now))]) (wsN := fun (_ : Unit) => MW h cI (va_cpy bef now 0 0 667) past (nI k) bef tri tex typed ati) F hK hA hP hD hS (c_X4_copies (by omega) (by omega) (by omega) (by omega)) (va_cwS 4 hts gX4_ends_X4_copies rfl rfl rfl (by decide +kernel) ⟨Nat.le_of_ble_eq_true rfl, Nat.le_of_ble_eq_true rfl⟩) [3, 1] [0, 2, 4, 5] [0, 5, 1, 4, 2, 3] ([(h 0, .inr (4, [.ref (h 1), .ref (h 2), .int (nI k), .ref (h 3), .ref (h 4), .ref (h 5), .int typed, .int ati])), (h 2, .inl (cI, 3335, .inl past)), (h 4, .inl (cI, 667, .inl tri)), (h 5, .inl (cI, 80, .inl tex))]) rfl rfl (fun _ => rfl) (by decide) (by decide) rfl hl.1 rfl (Nat.le_of_ble_eq_true rfl) ⟨Nat.zero_le _, Nat.zero_le _⟩ dX4_ends_14 (fun _ H locs hw_5 hP hD hS => ?_)
    try dsimp only at hw_5 hP hD
    have hP := vc_arr (g := bef) (wsN := MW h cI bef past (nI k) bef tri tex typed ati) 1 rfl (fun j hj => sb_cpy0 hj) rfl hP
    have hD := vc_arrD (g := bef) (wsN := MW h cI bef past (nI k) bef tri tex typed ati) 1 rfl rfl hD
    have hP : va_P D vwCl (MW h cI (fnN bef now ans) (fnP past k bef ans) (nI (fnK k ans)) bef tri tex typed ati) H := by rw [fnN, fnP, fnK, if_pos c1, if_pos c1, if_pos c1]; exact hP
    have hD : va_D A0 (MW h cI (fnN bef now ans) (fnP past k bef ans) (nI (fnK k ans)) bef tri tex typed ati) := by rw [fnN, fnP, fnK, if_pos c1, if_pos c1, if_pos c1]; exact hD
    refine lv_iload_n hx hb dX4_ends_17 rfl (lv_at hl 1 rfl) ?_
    exact RETN _ _ ans () _ _ dX4_ends_18 (rfl) (rfl) hP hD hS
set_option maxHeartbeats 4000000 in
set_option maxRecDepth 100000 in
theorem c_X4_goesThrough {l : Launch} {D : va_G} {cI cG cC cR : ClassId} {h : Nat → Nat} {now past bef tri tex : Nat → Int32} {pasts typed ati : Int32} : CtI l yX4_goesThrough wsX4_goesThrough { frames := 3, cells := 0, slots := 0, locals := 67 } D (TY cI cG cC cR) [.ref (h 0)] (MW h cI now past pasts bef tri tex typed ati) (fun (u : Nat → Int32) => MW h cI u past pasts bef tri tex typed ati) (fun (r : Int32) (u : Nat → Int32) => r = oI (gt 10 0 now).1 ∧ u = (gt 10 0 now).2) := by
  refine CtI.of (cc := cX4_goesThrough) (maxL := 3) (ty := .int) (by decide) rfl (Nat.le_of_ble_eq_true rfl) ?_
  intro P0 e0 s0 m0 a0 b0 t0 c0 A0 Q0 ls F hK hP hD hA RETN hl
  obtain ⟨hx, hb, hml, hown, hts⟩ := id F
  have hS : va_S A0 s0.heap s0.heap [] := va_S.rf
  have hl : lv_has ls 3 [(0, .ref (h 0))] := hl
  have lk7 := hts (.fieldLink RX4 7 "SlotMapsModel" "now" "[I") (by decide +kernel)
  have hI4 : ∀ w ∈ u_ws RX4 TX4 8, w ∈ wsX4_goesThrough := by decide +kernel
  refine lv_iconst (v := (nI 0)) hx hb dX4_goesThrough_0 (by decide) ?_
  refine lv_istore_n (lv' := [(1, .int (nI 0)), (0, .ref (h 0))]) hx hb dX4_goesThrough_1 rfl hl (by decide) rfl (fun ls hl => ?_)
  have LP2 : ∀ (nn : Nat) (w : Nat) (g : Nat → Int32) (H : Heap) (locs : List Loc) (ls : Array Slot), w ≤ 10 → gt 10 0 now = gt (10 - w) w g → 10 - w < nn → va_P D vwCl (MW h cI g past pasts bef tri tex typed ati) H → va_D A0 (MW h cI g past pasts bef tri tex typed ati) → va_S A0 s0.heap H locs → lv_has ls 3 [(1, .int (nI w)), (0, .ref (h 0))] → W P0 l e0 { frames := 3, cells := 0, slots := 0, locals := 67 } s0 m0 a0 b0 t0 c0 H locs 0 0 Q0 (F0 m0 2 ls []) := by
    intro nn
    induction nn with
    | zero => intro w g H locs ls hw hg hmu; exact absurd hmu (Nat.not_lt_zero _)
    | succ nn ih2 =>
      intro w g H locs ls hw hg hmu2 hP hD hS hl
      refine lv_iload_n hx hb dX4_goesThrough_2 rfl (lv_at hl 0 rfl) ?_
      refine lv_bipush (v := (nI 10)) hx hb dX4_goesThrough_3 (by decide) ?_
      refine lv_icmp_ge (tgt := 70) hx hb dX4_goesThrough_5 (by decide) (fun c5 => ?_) (fun c5 => ?_)
      · skip
        replace c5 : 10 ≤ w := by rw [nI_leI (by omega) (by omega)] at c5; exact c5
        refine lv_bipush (v := (-9)) hx hb dX4_goesThrough_70 (by decide) ?_
        exact RETN _ _ (-9) g _ _ dX4_goesThrough_72 (rfl) (by rw [hg, gt_end (by omega)]; exact ⟨rfl, rfl⟩) hP hD hS
      · skip
        replace c5 : ¬ (10 ≤ w) := by rw [nI_leI (by omega) (by omega)] at c5; exact c5
        refine lv_aload_n hx hb dX4_goesThrough_8 rfl (lv_at hl 1 rfl) ?_
        refine va_get (D := D) (ci := 4) (v := .ref (h 1)) (C := RX4) (T := TX4) (N := 8) hx hb hts hI4 hown hK.1 hP 0 rfl rfl 0 (by decide) lk7 (fun _ h9 => h9) rfl dX4_goesThrough_9 ?_
        refine lv_sipush (v := (nI 640)) hx hb dX4_goesThrough_12 (by decide) ?_
        refine lv_iload_n hx hb dX4_goesThrough_15 rfl (lv_at hl 0 rfl) ?_
        refine lv_iadd hx hb dX4_goesThrough_16 ?_
        refine n_as (x' := nI (640 + w)) (nI_add _ _) ?_
        refine n_iald hx hb hK hP 1 0 rfl rfl (by decide) (by omega) dX4_goesThrough_17 ?_
        refine lv_if_ne (tgt := 64) hx hb dX4_goesThrough_18 (by decide) (fun c18 => ?_) (fun c18 => ?_)
        · skip
          replace c18 : ¬ (g (640 + w)) = nI 0 := c18
          refine lv_iinc (v := (nI (w + 1))) (lv' := [(1, .int (nI (w + 1))), (0, .ref (h 0))]) hx hb dX4_goesThrough_64 hl (k := 0) rfl (n_inc1 _) (by decide) rfl (fun ls hl => ?_)
          refine lv_goto (tgt := 2) hx hb dX4_goesThrough_67 (by decide) ?_
          exact ih2 (w + 1) g _ _ _ (by omega) (by rw [hg]; first | exact gt_hid (by omega) c18 | exact gt_full (by omega) c18 ho) (by omega) hP hD hS (lv_sub hl [0, 1] rfl)
        · skip
          replace c18 : (g (640 + w)) = nI 0 := c18
          refine lv_aload_n hx hb dX4_goesThrough_21 rfl (lv_at hl 1 rfl) ?_
          refine va_get (D := D) (ci := 4) (v := .ref (h 1)) (C := RX4) (T := TX4) (N := 8) hx hb hts hI4 hown hK.1 hP 0 rfl rfl 0 (by decide) lk7 (fun _ h9 => h9) rfl dX4_goesThrough_22 ?_
          refine lv_sipush (v := (nI 666)) hx hb dX4_goesThrough_25 (by decide) ?_
          refine lv_dup2_11 hx hb dX4_goesThrough_28 rfl rfl ?_
          refine n_iald hx hb hK hP 1 0 rfl rfl (by decide) (by omega) dX4_goesThrough_29 ?_
          refine lv_iconst (v := (nI 1)) hx hb dX4_goesThrough_30 (by decide) ?_
          refine lv_iadd hx hb dX4_goesThrough_31 ?_
          refine n_iast hx hb hK hP hD hS 1 0 rfl rfl (by decide) (by omega) dX4_goesThrough_32 (wsN := MW h cI (upd g 666 ((g 666) + (nI 1))) past pasts bef tri tex typed ati) rfl (fun H locs hP hD hS => ?_)
          refine lv_aload_n hx hb dX4_goesThrough_33 rfl (lv_at hl 1 rfl) ?_
          refine lv_iload_n hx hb dX4_goesThrough_34 rfl (lv_at hl 0 rfl) ?_
          refine cl_Vi (b := (h 0)) (As := [.int (nI w)]) (rest := []) (wc := MW h cI (upd g 666 ((g 666) + (nI 1))) past pasts bef tri tex typed ati) (wsN := fun (_ : Unit) => MW h cI (upd g 666 ((g 666) + (nI 1))) past pasts bef tri tex typed ati) F hK hA hP hD hS (c_X4_firstIn (by omega)) (cwV 1 hts gX4_goesThrough_X4_firstIn rfl rfl rfl (by decide +kernel) ⟨Nat.le_of_ble_eq_true rfl, Nat.le_of_ble_eq_true rfl⟩) [0, 1, 2, 3, 4, 5] [] [0, 1, 2, 3, 4, 5] ([]) rfl rfl (fun _ => rfl) (by decide) (by decide) 0 rfl rfl rfl hl.1 rfl (Nat.le_of_ble_eq_true rfl) ⟨Nat.zero_le _, Nat.zero_le _⟩ dX4_goesThrough_35 (fun rr _ H locs hw_1 hP hD hS => ?_)
          try dsimp only at hw_1 hP hD
          have hrr : rr = oI (fi (lkP g) w) := hw_1
          cases ho : fi (lkP g) w with
          | none =>
            obtain rfl : rr = -9 := by rw [hrr, ho]; rfl
            refine lv_istore_n (lv' := [(2, .int (-9)), (1, .int (nI w)), (0, .ref (h 0))]) hx hb dX4_goesThrough_38 rfl hl (by decide) rfl (fun ls hl => ?_)
            refine lv_iload_n hx hb dX4_goesThrough_39 rfl (lv_at hl 0 rfl) ?_
            refine lv_bipush (v := (-9)) hx hb dX4_goesThrough_40 (by decide) ?_
            refine lv_icmp_eq (tgt := 53) hx hb dX4_goesThrough_42 (by decide) (fun c42 => ?_) (fun c42 => ?_)
            · skip
              refine lv_aload_n hx hb dX4_goesThrough_53 rfl (lv_at hl 2 rfl) ?_
              refine va_get (D := D) (ci := 4) (v := .ref (h 1)) (C := RX4) (T := TX4) (N := 8) hx hb hts hI4 hown hK.1 hP 0 rfl rfl 0 (by decide) lk7 (fun _ h9 => h9) rfl dX4_goesThrough_54 ?_
              refine lv_sipush (v := (nI 640)) hx hb dX4_goesThrough_57 (by decide) ?_
              refine lv_iload_n hx hb dX4_goesThrough_60 rfl (lv_at hl 1 rfl) ?_
              refine lv_iadd hx hb dX4_goesThrough_61 ?_
              refine n_as (x' := nI (640 + w)) (nI_add _ _) ?_
              refine lv_iconst (v := (nI 1)) hx hb dX4_goesThrough_62 (by decide) ?_
              refine n_iast hx hb hK hP hD hS 1 0 rfl rfl (by decide) (by omega) dX4_goesThrough_63 (wsN := MW h cI (upd (upd g 666 ((g 666) + (nI 1))) (640 + w) (nI 1)) past pasts bef tri tex typed ati) rfl (fun H locs hP hD hS => ?_)
              refine lv_iinc (v := (nI (w + 1))) (lv' := [(1, .int (nI (w + 1))), (2, .int (-9)), (0, .ref (h 0))]) hx hb dX4_goesThrough_64 hl (k := 1) rfl (n_inc1 _) (by decide) rfl (fun ls hl => ?_)
              refine lv_goto (tgt := 2) hx hb dX4_goesThrough_67 (by decide) ?_
              exact ih2 (w + 1) (upd (upd g 666 ((g 666) + (nI 1))) (640 + w) (nI 1)) _ _ _ (by omega) (by rw [hg]; first | exact gt_hid (by omega) c18 | exact gt_full (by omega) c18 ho) (by omega) hP hD hS (lv_sub hl [0, 2] rfl)
            · skip
              exfalso
              exact c42 rfl
          | some sl =>
            obtain rfl : rr = nI sl := by rw [hrr, ho]; rfl
            have hsl := fi_lt ho
            refine lv_istore_n (lv' := [(2, .int (nI sl)), (1, .int (nI w)), (0, .ref (h 0))]) hx hb dX4_goesThrough_38 rfl hl (by decide) rfl (fun ls hl => ?_)
            refine lv_iload_n hx hb dX4_goesThrough_39 rfl (lv_at hl 0 rfl) ?_
            refine lv_bipush (v := (-9)) hx hb dX4_goesThrough_40 (by decide) ?_
            refine lv_icmp_eq (tgt := 53) hx hb dX4_goesThrough_42 (by decide) (fun c42 => ?_) (fun c42 => ?_)
            · skip
              exfalso
              exact ne9 (by omega) c42
            · skip
              refine lv_aload_n hx hb dX4_goesThrough_45 rfl (lv_at hl 2 rfl) ?_
              refine lv_iload_n hx hb dX4_goesThrough_46 rfl (lv_at hl 0 rfl) ?_
              refine lv_iconst (v := (nI 1)) hx hb dX4_goesThrough_47 (by decide) ?_
              refine cl_Vv (b := (h 0)) (As := [.int (nI sl), .int (nI 1)]) (rest := []) (wc := MW h cI (upd g 666 ((g 666) + (nI 1))) past pasts bef tri tex typed ati) (wsN := fun (_ : Unit) => MW h cI (bc1 (upd g 666 (g 666 + nI 1)) sl (nI 1)) past pasts bef tri tex typed ati) F hK hA hP hD hS (c_X4_becomes (by omega)) (cwV 2 hts gX4_goesThrough_X4_becomes rfl rfl rfl (by decide +kernel) ⟨Nat.le_of_ble_eq_true rfl, Nat.le_of_ble_eq_true rfl⟩) [0, 1, 2, 3, 4, 5] [] [0, 1, 2, 3, 4, 5] ([]) rfl rfl (fun _ => rfl) (by decide) (by decide) 0 rfl rfl rfl hl.1 rfl (Nat.le_of_ble_eq_true rfl) ⟨Nat.zero_le _, Nat.zero_le _⟩ dX4_goesThrough_48 (fun _ H locs hw_3 hP hD hS => ?_)
              try dsimp only at hw_3 hP hD
              refine lv_iload_n hx hb dX4_goesThrough_51 rfl (lv_at hl 0 rfl) ?_
              exact RETN _ _ (nI sl) (bc1 (lkP g) sl (nI 1)) _ _ dX4_goesThrough_52 (rfl) (by rw [hg, gt_found (by omega) c18 ho]; exact ⟨rfl, rfl⟩) hP hD hS
  exact LP2 _ 0 now _ _ _ (by omega) (rfl) (Nat.lt_succ_self _) hP hD hS (lv_sub hl [0, 1] rfl)
set_option maxHeartbeats 4000000 in
set_option maxRecDepth 100000 in
theorem c_X4_clears {l : Launch} {D : va_G} {cI cG cC cR : ClassId} {h : Nat → Nat} {now past bef tri tex : Nat → Int32} {pasts typed ati : Int32} {words : Nat} (h1 : 1 ≤ words) (h2 : words ≤ 10) : CtI l yX4_clears wsX4_clears { frames := 3, cells := 0, slots := 0, locals := 67 } D (TY cI cG cC cR) [.ref (h 0), .int (nI words)] (MW h cI now past pasts bef tri tex typed ati) (fun (u : Nat → Int32) => MW h cI u past pasts bef tri tex typed ati) (fun (r : Int32) (u : Nat → Int32) => r = nI (clN now words) ∧ u = clF now words) := by
  refine CtI.of (cc := cX4_clears) (maxL := 6) (ty := .int) (by decide) rfl (Nat.le_of_ble_eq_true rfl) ?_
  intro P0 e0 s0 m0 a0 b0 t0 c0 A0 Q0 ls F hK hP hD hA RETN hl
  obtain ⟨hx, hb, hml, hown, hts⟩ := id F
  have hS : va_S A0 s0.heap s0.heap [] := va_S.rf
  have hl : lv_has ls 6 [(0, .ref (h 0)), (1, .int (nI words))] := hl
  have lk7 := hts (.fieldLink RX4 7 "SlotMapsModel" "now" "[I") (by decide +kernel)
  have hI4 : ∀ w ∈ u_ws RX4 TX4 8, w ∈ wsX4_clears := by decide +kernel
  refine lv_iconst (v := (nI 0)) hx hb dX4_clears_0 (by decide) ?_
  refine lv_istore_n (lv' := [(2, .int (nI 0)), (0, .ref (h 0)), (1, .int (nI words))]) hx hb dX4_clears_1 rfl hl (by decide) rfl (fun ls hl => ?_)
  refine lv_iload_n hx hb dX4_clears_2 rfl (lv_at hl 2 rfl) ?_
  refine lv_istore_n (lv' := [(3, .int (nI words)), (2, .int (nI 0)), (0, .ref (h 0)), (1, .int (nI words))]) hx hb dX4_clears_3 rfl hl (by decide) rfl (fun ls hl => ?_)
  refine lv_iconst (v := (nI 0)) hx hb dX4_clears_4 (by decide) ?_
  refine lv_istore (lv' := [(4, .int (nI 0)), (3, .int (nI words)), (2, .int (nI 0)), (0, .ref (h 0)), (1, .int (nI words))]) hx hb dX4_clears_5 hl (by decide) rfl (fun ls hl => ?_)
  have LP7 : ∀ (nn : Nat) (w : Nat) (n : Nat) (lf : Nat) (g : Nat → Int32) (H : Heap) (locs : List Loc) (ls : Array Slot), w ≤ 10 → n = clS now words w → lzc now w ≤ words ∧ lf = words - lzc now w → g = bec now (clP now words w (32 * w)) (fun _ => nI 0) → 10 - w < nn → va_P D vwCl (MW h cI g past pasts bef tri tex typed ati) H → va_D A0 (MW h cI g past pasts bef tri tex typed ati) → va_S A0 s0.heap H locs → lv_has ls 6 [(4, .int (nI w)), (3, .int (nI lf)), (2, .int (nI n)), (0, .ref (h 0)), (1, .int (nI words))] → W P0 l e0 { frames := 3, cells := 0, slots := 0, locals := 67 } s0 m0 a0 b0 t0 c0 H locs 0 0 Q0 (F0 m0 7 ls []) := by
    intro nn
    induction nn with
    | zero => intro w n lf g H locs ls hw hn hlf hg hmu; exact absurd hmu (Nat.not_lt_zero _)
    | succ nn ih7 =>
      intro w n lf g H locs ls hw hn hlf hg hmu7 hP hD hS hl
      have hcl := clS_le now words w hw
      refine lv_iload hx hb dX4_clears_7 (lv_at hl 0 rfl) ?_
      refine lv_bipush (v := (nI 10)) hx hb dX4_clears_9 (by decide) ?_
      refine lv_icmp_ge (tgt := 89) hx hb dX4_clears_11 (by decide) (fun c11 => ?_) (fun c11 => ?_)
      · skip
        replace c11 : 10 ≤ w := by rw [nI_leI (by omega) (by omega)] at c11; exact c11
        refine lv_iload_n hx hb dX4_clears_89 rfl (lv_at hl 2 rfl) ?_
        exact RETN _ _ (nI n) g _ _ dX4_clears_90 (rfl) (by have hd : w = 10 ∨ words ≤ lzc now w := (by omega); exact ⟨by rw [hn, clN_done hw hd], cl_done hg hw hd⟩) hP hD hS
      · skip
        replace c11 : ¬ (10 ≤ w) := by rw [nI_leI (by omega) (by omega)] at c11; exact c11
        refine lv_iload_n hx hb dX4_clears_14 rfl (lv_at hl 1 rfl) ?_
        refine lv_if_le (tgt := 89) hx hb dX4_clears_15 (by decide) (fun c15 => ?_) (fun c15 => ?_)
        · skip
          replace c15 : lf ≤ 0 := by rw [show (0 : Int32) = nI 0 from rfl, nI_leI (by omega) (by omega)] at c15; exact c15
          refine lv_iload_n hx hb dX4_clears_89 rfl (lv_at hl 2 rfl) ?_
          exact RETN _ _ (nI n) g _ _ dX4_clears_90 (rfl) (by have hd : w = 10 ∨ words ≤ lzc now w := (by omega); exact ⟨by rw [hn, clN_done hw hd], cl_done hg hw hd⟩) hP hD hS
        · skip
          replace c15 : ¬ (lf ≤ 0) := by rw [show (0 : Int32) = nI 0 from rfl, nI_leI (by omega) (by omega)] at c15; exact c15
          refine lv_iload_n hx hb dX4_clears_18 rfl (lv_at hl 1 rfl) ?_
          refine lv_aload_n hx hb dX4_clears_19 rfl (lv_at hl 3 rfl) ?_
          refine lv_iload hx hb dX4_clears_20 (lv_at hl 0 rfl) ?_
          refine lv_iconst (v := (nI 2)) hx hb dX4_clears_22 (by decide) ?_
          have hc := cw_le now w (nI 2)
          refine cl_Vi (b := (h 0)) (As := [.int (nI w), .int (nI 2)]) (rest := [.int (nI lf)]) (wc := MW h cI g past pasts bef tri tex typed ati) (wsN := fun (_ : Unit) => MW h cI g past pasts bef tri tex typed ati) F hK hA hP hD hS (c_X4_inWord (by omega)) (cwV 2 hts gX4_clears_X4_inWord rfl rfl rfl (by decide +kernel) ⟨Nat.le_of_ble_eq_true rfl, Nat.le_of_ble_eq_true rfl⟩) [0, 1, 2, 3, 4, 5] [] [0, 1, 2, 3, 4, 5] ([]) rfl rfl (fun _ => rfl) (by decide) (by decide) 0 rfl rfl rfl hl.1 rfl (Nat.le_of_ble_eq_true rfl) ⟨Nat.zero_le _, Nat.zero_le _⟩ dX4_clears_23 (fun r_2 _ H locs hw_1 hP hD hS => ?_)
          try dsimp only at hw_1 hP hD
          obtain rfl : r_2 = (nI (cw now w (nI 2))) := by rw [hw_1, cl_cw hg (by omega)]
          refine lv_if_le (tgt := 33) hx hb dX4_clears_26 (by decide) (fun c26 => ?_) (fun c26 => ?_)
          · skip
            replace c26 : (cw now w (nI 2)) ≤ 0 := by rw [show (0 : Int32) = nI 0 from rfl, nI_leI (by omega) (by omega)] at c26; exact c26
            refine lv_iconst (v := (nI 0)) hx hb dX4_clears_33 (by decide) ?_
            refine lv_isub hx hb dX4_clears_34 ?_
            refine n_as (x' := nI (lf - 0)) (pk_sub (by omega)) ?_
            refine lv_istore_n (lv' := [(3, .int (nI (lf - 0))), (4, .int (nI w)), (2, .int (nI n)), (0, .ref (h 0)), (1, .int (nI words))]) hx hb dX4_clears_35 rfl hl (by decide) rfl (fun ls hl => ?_)
            refine lv_bipush (v := (nI 32)) hx hb dX4_clears_36 (by decide) ?_
            refine lv_iload hx hb dX4_clears_38 (lv_at hl 1 rfl) ?_
            refine lv_imul hx hb dX4_clears_40 ?_
            refine n_as (x' := nI (32 * w)) (pk_mul _ _) ?_
            refine lv_istore (lv' := [(5, .int (nI (32 * w))), (3, .int (nI (lf - 0))), (4, .int (nI w)), (2, .int (nI n)), (0, .ref (h 0)), (1, .int (nI words))]) hx hb dX4_clears_41 hl (by decide) rfl (fun ls hl => ?_)
            have hlz : lzc now w < words := by omega
            have LP43 : ∀ (nn : Nat) (sl : Nat) (n2 : Nat) (g2 : Nat → Int32) (H : Heap) (locs : List Loc) (ls : Array Slot), 32 * w ≤ sl ∧ sl ≤ 32 * w + 32 → n2 = n + fb_ct (fun i => decide (now (32 * w + i) = nI 2)) (sl - 32 * w) → g2 = bec now (clP now words w sl) (fun _ => nI 0) → 32 * w + 32 - sl < nn → va_P D vwCl (MW h cI g2 past pasts bef tri tex typed ati) H → va_D A0 (MW h cI g2 past pasts bef tri tex typed ati) → va_S A0 s0.heap H locs → lv_has ls 6 [(5, .int (nI sl)), (3, .int (nI (lf - 0))), (4, .int (nI w)), (2, .int (nI n2)), (0, .ref (h 0)), (1, .int (nI words))] → W P0 l e0 { frames := 3, cells := 0, slots := 0, locals := 67 } s0 m0 a0 b0 t0 c0 H locs 0 0 Q0 (F0 m0 43 ls []) := by
              intro nn
              induction nn with
              | zero => intro sl n2 g2 H locs ls hs hn2 hg2 hmu; exact absurd hmu (Nat.not_lt_zero _)
              | succ nn ih43 =>
                intro sl n2 g2 H locs ls hs hn2 hg2 hmu43 hP hD hS hl
                have hct := fb_ct_le (fun i => decide (now (32 * w + i) = nI 2)) (sl - 32 * w)
                refine lv_iload hx hb dX4_clears_43 (lv_at hl 0 rfl) ?_
                refine lv_bipush (v := (nI 32)) hx hb dX4_clears_45 (by decide) ?_
                refine lv_iload hx hb dX4_clears_47 (lv_at hl 2 rfl) ?_
                refine lv_imul hx hb dX4_clears_49 ?_
                refine n_as (x' := nI (32 * w)) (pk_mul _ _) ?_
                refine lv_bipush (v := (nI 32)) hx hb dX4_clears_50 (by decide) ?_
                refine lv_iadd hx hb dX4_clears_52 ?_
                refine n_as (x' := nI ((32 * w) + 32)) (nI_add _ _) ?_
                refine lv_icmp_ge (tgt := 83) hx hb dX4_clears_53 (by decide) (fun c53 => ?_) (fun c53 => ?_)
                · skip
                  replace c53 : ((32 * w) + 32) ≤ sl := by rw [nI_leI (by omega) (by omega)] at c53; exact c53
                  refine lv_iinc (v := (nI (w + 1))) (lv' := [(4, .int (nI (w + 1))), (5, .int (nI sl)), (3, .int (nI (lf - 0))), (2, .int (nI n2)), (0, .ref (h 0)), (1, .int (nI words))]) hx hb dX4_clears_83 hl (k := 2) rfl (n_inc1 _) (by decide) rfl (fun ls hl => ?_)
                  refine lv_goto (tgt := 7) hx hb dX4_clears_86 (by decide) ?_
                  exact ih7 (w + 1) n2 (lf - 0) g2 _ _ _ (by omega) (by rw [hn2, hn, clS_succ hlz, show sl - 32 * w = 32 by omega]; rfl) (by rw [lzc_succ]; split <;> omega) (by obtain rfl : sl = 32 * w + 32 := (by omega); exact cl_next hg2 hlz) (by omega) hP hD hS (lv_sub hl [0, 2, 3, 4, 5] rfl)
                · skip
                  replace c53 : ¬ (((32 * w) + 32) ≤ sl) := by rw [nI_leI (by omega) (by omega)] at c53; exact c53
                  refine lv_aload_n hx hb dX4_clears_56 rfl (lv_at hl 4 rfl) ?_
                  refine va_get (D := D) (ci := 4) (v := .ref (h 1)) (C := RX4) (T := TX4) (N := 8) hx hb hts hI4 hown hK.1 hP 0 rfl rfl 0 (by decide) lk7 (fun _ h9 => h9) rfl dX4_clears_57 ?_
                  have hgs : g2 sl = now sl := cl_slot hg2 (by omega) (by omega)
                  refine lv_iload hx hb dX4_clears_60 (lv_at hl 0 rfl) ?_
                  refine n_iald hx hb hK hP 1 0 rfl rfl (by decide) (by omega) dX4_clears_62 ?_
                  refine lv_iconst (v := (nI 2)) hx hb dX4_clears_63 (by decide) ?_
                  refine lv_icmp_ne (tgt := 77) hx hb dX4_clears_64 (by decide) (fun c64 => ?_) (fun c64 => ?_)
                  · skip
                    rw [hgs] at c64
                    refine lv_iinc (v := (nI (sl + 1))) (lv' := [(5, .int (nI (sl + 1))), (3, .int (nI (lf - 0))), (4, .int (nI w)), (2, .int (nI n2)), (0, .ref (h 0)), (1, .int (nI words))]) hx hb dX4_clears_77 hl (k := 0) rfl (n_inc1 _) (by decide) rfl (fun ls hl => ?_)
                    refine lv_goto (tgt := 43) hx hb dX4_clears_80 (by decide) ?_
                    exact ih43 (sl + 1) n2 g2 _ _ _ (by omega) (by rw [show sl + 1 - 32 * w = (sl - 32 * w) + 1 by omega, fb_ct_succ, show 32 * w + (sl - 32 * w) = sl by omega, hn2]; simp [c64]; try omega) (by first | exact cl_take hg2 (by omega) (by omega) c64 | exact cl_skip hg2 c64) (by omega) hP hD hS (lv_sub hl [0, 1, 2, 3, 4, 5] rfl)
                  · skip
                    rw [hgs] at c64
                    refine lv_aload_n hx hb dX4_clears_67 rfl (lv_at hl 4 rfl) ?_
                    refine lv_iload hx hb dX4_clears_68 (lv_at hl 0 rfl) ?_
                    refine lv_iconst (v := (nI 0)) hx hb dX4_clears_70 (by decide) ?_
                    refine cl_Vv (b := (h 0)) (As := [.int (nI sl), .int (nI 0)]) (rest := []) (wc := MW h cI g2 past pasts bef tri tex typed ati) (wsN := fun (_ : Unit) => MW h cI (bc1 g2 sl (nI 0)) past pasts bef tri tex typed ati) F hK hA hP hD hS (c_X4_becomes (by omega)) (cwV 2 hts gX4_clears_X4_becomes rfl rfl rfl (by decide +kernel) ⟨Nat.le_of_ble_eq_true rfl, Nat.le_of_ble_eq_true rfl⟩) [0, 1, 2, 3, 4, 5] [] [0, 1, 2, 3, 4, 5] ([]) rfl rfl (fun _ => rfl) (by decide) (by decide) 0 rfl rfl rfl hl.1 rfl (Nat.le_of_ble_eq_true rfl) ⟨Nat.zero_le _, Nat.zero_le _⟩ dX4_clears_71 (fun _ H locs hw_3 hP hD hS => ?_)
                    try dsimp only at hw_3 hP hD
                    refine lv_iinc (v := (nI (n2 + 1))) (lv' := [(2, .int (nI (n2 + 1))), (5, .int (nI sl)), (3, .int (nI (lf - 0))), (4, .int (nI w)), (0, .ref (h 0)), (1, .int (nI words))]) hx hb dX4_clears_74 hl (k := 3) rfl (n_inc1 _) (by decide) rfl (fun ls hl => ?_)
                    refine lv_iinc (v := (nI (sl + 1))) (lv' := [(5, .int (nI (sl + 1))), (2, .int (nI (n2 + 1))), (3, .int (nI (lf - 0))), (4, .int (nI w)), (0, .ref (h 0)), (1, .int (nI words))]) hx hb dX4_clears_77 hl (k := 1) rfl (n_inc1 _) (by decide) rfl (fun ls hl => ?_)
                    refine lv_goto (tgt := 43) hx hb dX4_clears_80 (by decide) ?_
                    exact ih43 (sl + 1) (n2 + 1) (bc1 g2 sl (nI 0)) _ _ _ (by omega) (by rw [show sl + 1 - 32 * w = (sl - 32 * w) + 1 by omega, fb_ct_succ, show 32 * w + (sl - 32 * w) = sl by omega, hn2]; simp [c64]; try omega) (by first | exact cl_take hg2 (by omega) (by omega) c64 | exact cl_skip hg2 c64) (by omega) hP hD hS (lv_sub hl [0, 2, 3, 1, 4, 5] rfl)
            exact LP43 _ (32 * w) n g _ _ _ (by omega) (by rw [Nat.sub_self]; rfl) (hg) (Nat.lt_succ_self _) hP hD hS (lv_sub hl [0, 1, 2, 3, 4, 5] rfl)
          · skip
            replace c26 : ¬ ((cw now w (nI 2)) ≤ 0) := by rw [show (0 : Int32) = nI 0 from rfl, nI_leI (by omega) (by omega)] at c26; exact c26
            refine lv_iconst (v := (nI 1)) hx hb dX4_clears_29 (by decide) ?_
            refine lv_goto (tgt := 34) hx hb dX4_clears_30 (by decide) ?_
            refine lv_isub hx hb dX4_clears_34 ?_
            refine n_as (x' := nI (lf - 1)) (pk_sub (by omega)) ?_
            refine lv_istore_n (lv' := [(3, .int (nI (lf - 1))), (4, .int (nI w)), (2, .int (nI n)), (0, .ref (h 0)), (1, .int (nI words))]) hx hb dX4_clears_35 rfl hl (by decide) rfl (fun ls hl => ?_)
            refine lv_bipush (v := (nI 32)) hx hb dX4_clears_36 (by decide) ?_
            refine lv_iload hx hb dX4_clears_38 (lv_at hl 1 rfl) ?_
            refine lv_imul hx hb dX4_clears_40 ?_
            refine n_as (x' := nI (32 * w)) (pk_mul _ _) ?_
            refine lv_istore (lv' := [(5, .int (nI (32 * w))), (3, .int (nI (lf - 1))), (4, .int (nI w)), (2, .int (nI n)), (0, .ref (h 0)), (1, .int (nI words))]) hx hb dX4_clears_41 hl (by decide) rfl (fun ls hl => ?_)
            have hlz : lzc now w < words := by omega
            have LP43 : ∀ (nn : Nat) (sl : Nat) (n2 : Nat) (g2 : Nat → Int32) (H : Heap) (locs : List Loc) (ls : Array Slot), 32 * w ≤ sl ∧ sl ≤ 32 * w + 32 → n2 = n + fb_ct (fun i => decide (now (32 * w + i) = nI 2)) (sl - 32 * w) → g2 = bec now (clP now words w sl) (fun _ => nI 0) → 32 * w + 32 - sl < nn → va_P D vwCl (MW h cI g2 past pasts bef tri tex typed ati) H → va_D A0 (MW h cI g2 past pasts bef tri tex typed ati) → va_S A0 s0.heap H locs → lv_has ls 6 [(5, .int (nI sl)), (3, .int (nI (lf - 1))), (4, .int (nI w)), (2, .int (nI n2)), (0, .ref (h 0)), (1, .int (nI words))] → W P0 l e0 { frames := 3, cells := 0, slots := 0, locals := 67 } s0 m0 a0 b0 t0 c0 H locs 0 0 Q0 (F0 m0 43 ls []) := by
              intro nn
              induction nn with
              | zero => intro sl n2 g2 H locs ls hs hn2 hg2 hmu; exact absurd hmu (Nat.not_lt_zero _)
              | succ nn ih43 =>
                intro sl n2 g2 H locs ls hs hn2 hg2 hmu43 hP hD hS hl
                have hct := fb_ct_le (fun i => decide (now (32 * w + i) = nI 2)) (sl - 32 * w)
                refine lv_iload hx hb dX4_clears_43 (lv_at hl 0 rfl) ?_
                refine lv_bipush (v := (nI 32)) hx hb dX4_clears_45 (by decide) ?_
                refine lv_iload hx hb dX4_clears_47 (lv_at hl 2 rfl) ?_
                refine lv_imul hx hb dX4_clears_49 ?_
                refine n_as (x' := nI (32 * w)) (pk_mul _ _) ?_
                refine lv_bipush (v := (nI 32)) hx hb dX4_clears_50 (by decide) ?_
                refine lv_iadd hx hb dX4_clears_52 ?_
                refine n_as (x' := nI ((32 * w) + 32)) (nI_add _ _) ?_
                refine lv_icmp_ge (tgt := 83) hx hb dX4_clears_53 (by decide) (fun c53 => ?_) (fun c53 => ?_)
                · skip
                  replace c53 : ((32 * w) + 32) ≤ sl := by rw [nI_leI (by omega) (by omega)] at c53; exact c53
                  refine lv_iinc (v := (nI (w + 1))) (lv' := [(4, .int (nI (w + 1))), (5, .int (nI sl)), (3, .int (nI (lf - 1))), (2, .int (nI n2)), (0, .ref (h 0)), (1, .int (nI words))]) hx hb dX4_clears_83 hl (k := 2) rfl (n_inc1 _) (by decide) rfl (fun ls hl => ?_)
                  refine lv_goto (tgt := 7) hx hb dX4_clears_86 (by decide) ?_
                  exact ih7 (w + 1) n2 (lf - 1) g2 _ _ _ (by omega) (by rw [hn2, hn, clS_succ hlz, show sl - 32 * w = 32 by omega]; rfl) (by rw [lzc_succ]; split <;> omega) (by obtain rfl : sl = 32 * w + 32 := (by omega); exact cl_next hg2 hlz) (by omega) hP hD hS (lv_sub hl [0, 2, 3, 4, 5] rfl)
                · skip
                  replace c53 : ¬ (((32 * w) + 32) ≤ sl) := by rw [nI_leI (by omega) (by omega)] at c53; exact c53
                  refine lv_aload_n hx hb dX4_clears_56 rfl (lv_at hl 4 rfl) ?_
                  refine va_get (D := D) (ci := 4) (v := .ref (h 1)) (C := RX4) (T := TX4) (N := 8) hx hb hts hI4 hown hK.1 hP 0 rfl rfl 0 (by decide) lk7 (fun _ h9 => h9) rfl dX4_clears_57 ?_
                  have hgs : g2 sl = now sl := cl_slot hg2 (by omega) (by omega)
                  refine lv_iload hx hb dX4_clears_60 (lv_at hl 0 rfl) ?_
                  refine n_iald hx hb hK hP 1 0 rfl rfl (by decide) (by omega) dX4_clears_62 ?_
                  refine lv_iconst (v := (nI 2)) hx hb dX4_clears_63 (by decide) ?_
                  refine lv_icmp_ne (tgt := 77) hx hb dX4_clears_64 (by decide) (fun c64 => ?_) (fun c64 => ?_)
                  · skip
                    rw [hgs] at c64
                    refine lv_iinc (v := (nI (sl + 1))) (lv' := [(5, .int (nI (sl + 1))), (3, .int (nI (lf - 1))), (4, .int (nI w)), (2, .int (nI n2)), (0, .ref (h 0)), (1, .int (nI words))]) hx hb dX4_clears_77 hl (k := 0) rfl (n_inc1 _) (by decide) rfl (fun ls hl => ?_)
                    refine lv_goto (tgt := 43) hx hb dX4_clears_80 (by decide) ?_
                    exact ih43 (sl + 1) n2 g2 _ _ _ (by omega) (by rw [show sl + 1 - 32 * w = (sl - 32 * w) + 1 by omega, fb_ct_succ, show 32 * w + (sl - 32 * w) = sl by omega, hn2]; simp [c64]; try omega) (by first | exact cl_take hg2 (by omega) (by omega) c64 | exact cl_skip hg2 c64) (by omega) hP hD hS (lv_sub hl [0, 1, 2, 3, 4, 5] rfl)
                  · skip
                    rw [hgs] at c64
                    refine lv_aload_n hx hb dX4_clears_67 rfl (lv_at hl 4 rfl) ?_
                    refine lv_iload hx hb dX4_clears_68 (lv_at hl 0 rfl) ?_
                    refine lv_iconst (v := (nI 0)) hx hb dX4_clears_70 (by decide) ?_
                    refine cl_Vv (b := (h 0)) (As := [.int (nI sl), .int (nI 0)]) (rest := []) (wc := MW h cI g2 past pasts bef tri tex typed ati) (wsN := fun (_ : Unit) => MW h cI (bc1 g2 sl (nI 0)) past pasts bef tri tex typed ati) F hK hA hP hD hS (c_X4_becomes (by omega)) (cwV 2 hts gX4_clears_X4_becomes rfl rfl rfl (by decide +kernel) ⟨Nat.le_of_ble_eq_true rfl, Nat.le_of_ble_eq_true rfl⟩) [0, 1, 2, 3, 4, 5] [] [0, 1, 2, 3, 4, 5] ([]) rfl rfl (fun _ => rfl) (by decide) (by decide) 0 rfl rfl rfl hl.1 rfl (Nat.le_of_ble_eq_true rfl) ⟨Nat.zero_le _, Nat.zero_le _⟩ dX4_clears_71 (fun _ H locs hw_5 hP hD hS => ?_)
                    try dsimp only at hw_5 hP hD
                    refine lv_iinc (v := (nI (n2 + 1))) (lv' := [(2, .int (nI (n2 + 1))), (5, .int (nI sl)), (3, .int (nI (lf - 1))), (4, .int (nI w)), (0, .ref (h 0)), (1, .int (nI words))]) hx hb dX4_clears_74 hl (k := 3) rfl (n_inc1 _) (by decide) rfl (fun ls hl => ?_)
                    refine lv_iinc (v := (nI (sl + 1))) (lv' := [(5, .int (nI (sl + 1))), (2, .int (nI (n2 + 1))), (3, .int (nI (lf - 1))), (4, .int (nI w)), (0, .ref (h 0)), (1, .int (nI words))]) hx hb dX4_clears_77 hl (k := 1) rfl (n_inc1 _) (by decide) rfl (fun ls hl => ?_)
                    refine lv_goto (tgt := 43) hx hb dX4_clears_80 (by decide) ?_
                    exact ih43 (sl + 1) (n2 + 1) (bc1 g2 sl (nI 0)) _ _ _ (by omega) (by rw [show sl + 1 - 32 * w = (sl - 32 * w) + 1 by omega, fb_ct_succ, show 32 * w + (sl - 32 * w) = sl by omega, hn2]; simp [c64]; try omega) (by first | exact cl_take hg2 (by omega) (by omega) c64 | exact cl_skip hg2 c64) (by omega) hP hD hS (lv_sub hl [0, 2, 3, 1, 4, 5] rfl)
            exact LP43 _ (32 * w) n g _ _ _ (by omega) (by rw [Nat.sub_self]; rfl) (hg) (Nat.lt_succ_self _) hP hD hS (lv_sub hl [0, 1, 2, 3, 4, 5] rfl)
  exact LP7 _ 0 0 words now _ _ _ (by omega) (rfl) (⟨Nat.zero_le _, rfl⟩) (cl_0 now words) (Nat.lt_succ_self _) hP hD hS (lv_sub hl [0, 1, 2, 3, 4] rfl)
set_option maxHeartbeats 4000000 in
set_option maxRecDepth 100000 in
theorem c_X4_takes1 {l : Launch} {D : va_G} {cI cG cC cR : ClassId} {h : Nat → Nat} {now past bef tri tex : Nat → Int32} {pasts typed ati : Int32} : CtI l yX4_takes1 wsX4_takes1 { frames := 4, cells := 0, slots := 0, locals := 92 } D (TY cI cG cC cR) [.ref (h 0)] (MW h cI now past pasts bef tri tex typed ati) (fun (u : Nat → Int32) => MW h cI u past pasts bef tri tex typed ati) (fun (r : Int32) (u : Nat → Int32) => r = o3 (tk now).1 ∧ u = (tk now).2) := by
  refine CtI.of (cc := cX4_takes1) (maxL := 2) (ty := .int) (by decide) rfl (Nat.le_of_ble_eq_true rfl) ?_
  intro P0 e0 s0 m0 a0 b0 t0 c0 A0 Q0 ls F hK hP hD hA RETN hl
  obtain ⟨hx, hb, hml, hown, hts⟩ := id F
  have hS : va_S A0 s0.heap s0.heap [] := va_S.rf
  have hl : lv_has ls 2 [(0, .ref (h 0))] := hl
  refine lv_aload_n hx hb dX4_takes1_0 rfl (lv_at hl 0 rfl) ?_
  refine cl_Vi (b := (h 0)) (As := []) (rest := []) (wc := MW h cI now past pasts bef tri tex typed ati) (wsN := fun (u1 : Nat → Int32) => MW h cI u1 past pasts bef tri tex typed ati) F hK hA hP hD hS (c_X4_goesThrough) (cwV 0 hts gX4_takes1_X4_goesThrough rfl rfl rfl (by decide +kernel) ⟨Nat.le_of_ble_eq_true rfl, Nat.le_of_ble_eq_true rfl⟩) [0, 1, 2, 3, 4, 5] [] [0, 1, 2, 3, 4, 5] ([]) rfl rfl (fun _ => rfl) (by decide) (by decide) 0 rfl rfl rfl hl.1 rfl (Nat.le_of_ble_eq_true rfl) ⟨Nat.zero_le _, Nat.zero_le _⟩ dX4_takes1_1 (fun r1 u1 H locs hw_1 hP hD hS => ?_)
  try dsimp only at hw_1 hP hD
  obtain ⟨hr1, rfl⟩ := hw_1
  have hP : va_P D vwCl (MW h cI ((gt 10 0 now).2) past pasts bef tri tex typed ati) H := hP
  have hD : va_D A0 (MW h cI ((gt 10 0 now).2) past pasts bef tri tex typed ati) := hD
  cases ho : (gt 10 0 now).1 with
  | none =>
    obtain rfl : r1 = -9 := by rw [hr1, ho]; rfl
    refine lv_istore_n (lv' := [(1, .int (-9)), (0, .ref (h 0))]) hx hb dX4_takes1_4 rfl hl (by decide) rfl (fun ls hl => ?_)
    refine lv_iload_n hx hb dX4_takes1_5 rfl (lv_at hl 0 rfl) ?_
    refine lv_bipush (v := (-9)) hx hb dX4_takes1_6 (by decide) ?_
    refine lv_icmp_ne (tgt := 25) hx hb dX4_takes1_8 (by decide) (fun c8 => ?_) (fun c8 => ?_)
    · skip
      exfalso
      exact c8 rfl
    · skip
      refine lv_aload_n hx hb dX4_takes1_11 rfl (lv_at hl 1 rfl) ?_
      refine lv_bipush (v := (nI 10)) hx hb dX4_takes1_12 (by decide) ?_
      have hcn := clN_le (gt 10 0 now).2 10
      refine cl_Vi (b := (h 0)) (As := [.int (nI 10)]) (rest := []) (wc := MW h cI ((gt 10 0 now).2) past pasts bef tri tex typed ati) (wsN := fun (u2 : Nat → Int32) => MW h cI u2 past pasts bef tri tex typed ati) F hK hA hP hD hS (c_X4_clears (by decide) (by decide)) (cwV 1 hts gX4_takes1_X4_clears rfl rfl rfl (by decide +kernel) ⟨Nat.le_of_ble_eq_true rfl, Nat.le_of_ble_eq_true rfl⟩) [0, 1, 2, 3, 4, 5] [] [0, 1, 2, 3, 4, 5] ([]) rfl rfl (fun _ => rfl) (by decide) (by decide) 0 rfl rfl rfl hl.1 rfl (Nat.le_of_ble_eq_true rfl) ⟨Nat.zero_le _, Nat.zero_le _⟩ dX4_takes1_14 (fun r2 u2 H locs hw_3 hP hD hS => ?_)
      try dsimp only at hw_3 hP hD
      obtain ⟨rfl, rfl⟩ := hw_3
      have hP : va_P D vwCl (MW h cI (clF (gt 10 0 now).2 10) past pasts bef tri tex typed ati) H := hP
      have hD : va_D A0 (MW h cI (clF (gt 10 0 now).2 10) past pasts bef tri tex typed ati) := hD
      refine lv_if_le (tgt := 25) hx hb dX4_takes1_17 (by decide) (fun c17 => ?_) (fun c17 => ?_)
      · skip
        replace c17 : (clN (gt 10 0 now).2 10) ≤ 0 := by rw [show (0 : Int32) = nI 0 from rfl, nI_leI (by omega) (by omega)] at c17; exact c17
        refine lv_iload_n hx hb dX4_takes1_25 rfl (lv_at hl 0 rfl) ?_
        refine lv_bipush (v := (-9)) hx hb dX4_takes1_26 (by decide) ?_
        refine lv_icmp_ne (tgt := 36) hx hb dX4_takes1_28 (by decide) (fun c28 => ?_) (fun c28 => ?_)
        · skip
          exfalso
          exact c28 rfl
        · skip
          refine lv_bipush (v := (-3)) hx hb dX4_takes1_31 (by decide) ?_
          refine lv_goto (tgt := 37) hx hb dX4_takes1_33 (by decide) ?_
          exact RETN _ _ (-3) (clF (gt 10 0 now).2 10) _ _ dX4_takes1_37 (rfl) (by first | (rw [tk_1 ho]; exact ⟨rfl, rfl⟩) | (rw [tk_3 ho (by omega)]; exact ⟨rfl, rfl⟩) | (rw [tk_2 ho (by omega)]; exact ⟨by rw [ho3]; rfl, rfl⟩)) hP hD hS
      · skip
        replace c17 : ¬ ((clN (gt 10 0 now).2 10) ≤ 0) := by rw [show (0 : Int32) = nI 0 from rfl, nI_leI (by omega) (by omega)] at c17; exact c17
        refine lv_aload_n hx hb dX4_takes1_20 rfl (lv_at hl 1 rfl) ?_
        refine cl_Vi (b := (h 0)) (As := []) (rest := []) (wc := MW h cI (clF (gt 10 0 now).2 10) past pasts bef tri tex typed ati) (wsN := fun (u3 : Nat → Int32) => MW h cI u3 past pasts bef tri tex typed ati) F hK hA hP hD hS (c_X4_goesThrough) (cwV 0 hts gX4_takes1_X4_goesThrough rfl rfl rfl (by decide +kernel) ⟨Nat.le_of_ble_eq_true rfl, Nat.le_of_ble_eq_true rfl⟩) [0, 1, 2, 3, 4, 5] [] [0, 1, 2, 3, 4, 5] ([]) rfl rfl (fun _ => rfl) (by decide) (by decide) 0 rfl rfl rfl hl.1 rfl (Nat.le_of_ble_eq_true rfl) ⟨Nat.zero_le _, Nat.zero_le _⟩ dX4_takes1_21 (fun r3 u3 H locs hw_5 hP hD hS => ?_)
        try dsimp only at hw_5 hP hD
        obtain ⟨hr3, rfl⟩ := hw_5
        have hP : va_P D vwCl (MW h cI ((gt 10 0 (clF (gt 10 0 now).2 10)).2) past pasts bef tri tex typed ati) H := hP
        have hD : va_D A0 (MW h cI ((gt 10 0 (clF (gt 10 0 now).2 10)).2) past pasts bef tri tex typed ati) := hD
        cases ho3 : (gt 10 0 (clF (gt 10 0 now).2 10)).1 with
        | none =>
          obtain rfl : r3 = -9 := by rw [hr3, ho3]; rfl
          refine lv_istore_n (lv' := [(1, .int (-9)), (0, .ref (h 0))]) hx hb dX4_takes1_24 rfl hl (by decide) rfl (fun ls hl => ?_)
          refine lv_iload_n hx hb dX4_takes1_25 rfl (lv_at hl 0 rfl) ?_
          refine lv_bipush (v := (-9)) hx hb dX4_takes1_26 (by decide) ?_
          refine lv_icmp_ne (tgt := 36) hx hb dX4_takes1_28 (by decide) (fun c28 => ?_) (fun c28 => ?_)
          · skip
            exfalso
            exact c28 rfl
          · skip
            refine lv_bipush (v := (-3)) hx hb dX4_takes1_31 (by decide) ?_
            refine lv_goto (tgt := 37) hx hb dX4_takes1_33 (by decide) ?_
            exact RETN _ _ (-3) ((gt 10 0 (clF (gt 10 0 now).2 10)).2) _ _ dX4_takes1_37 (rfl) (by first | (rw [tk_1 ho]; exact ⟨rfl, rfl⟩) | (rw [tk_3 ho (by omega)]; exact ⟨rfl, rfl⟩) | (rw [tk_2 ho (by omega)]; exact ⟨by rw [ho3]; rfl, rfl⟩)) hP hD hS
        | some sl3 =>
          obtain rfl : r3 = nI sl3 := by rw [hr3, ho3]; rfl
          have hsl := gt_lt ho3
          refine lv_istore_n (lv' := [(1, .int (nI sl3)), (0, .ref (h 0))]) hx hb dX4_takes1_24 rfl hl (by decide) rfl (fun ls hl => ?_)
          refine lv_iload_n hx hb dX4_takes1_25 rfl (lv_at hl 0 rfl) ?_
          refine lv_bipush (v := (-9)) hx hb dX4_takes1_26 (by decide) ?_
          refine lv_icmp_ne (tgt := 36) hx hb dX4_takes1_28 (by decide) (fun c28 => ?_) (fun c28 => ?_)
          · skip
            refine lv_iload_n hx hb dX4_takes1_36 rfl (lv_at hl 0 rfl) ?_
            exact RETN _ _ (nI sl3) ((gt 10 0 (clF (gt 10 0 now).2 10)).2) _ _ dX4_takes1_37 (rfl) (by first | (rw [tk_1 ho]; exact ⟨rfl, rfl⟩) | (rw [tk_3 ho (by omega)]; exact ⟨rfl, rfl⟩) | (rw [tk_2 ho (by omega)]; exact ⟨by rw [ho3]; rfl, rfl⟩)) hP hD hS
          · skip
            exfalso
            exact ne9 (by omega) c28
  | some sl =>
    obtain rfl : r1 = nI sl := by rw [hr1, ho]; rfl
    have hsl := gt_lt ho
    refine lv_istore_n (lv' := [(1, .int (nI sl)), (0, .ref (h 0))]) hx hb dX4_takes1_4 rfl hl (by decide) rfl (fun ls hl => ?_)
    refine lv_iload_n hx hb dX4_takes1_5 rfl (lv_at hl 0 rfl) ?_
    refine lv_bipush (v := (-9)) hx hb dX4_takes1_6 (by decide) ?_
    refine lv_icmp_ne (tgt := 25) hx hb dX4_takes1_8 (by decide) (fun c8 => ?_) (fun c8 => ?_)
    · skip
      refine lv_iload_n hx hb dX4_takes1_25 rfl (lv_at hl 0 rfl) ?_
      refine lv_bipush (v := (-9)) hx hb dX4_takes1_26 (by decide) ?_
      refine lv_icmp_ne (tgt := 36) hx hb dX4_takes1_28 (by decide) (fun c28 => ?_) (fun c28 => ?_)
      · skip
        refine lv_iload_n hx hb dX4_takes1_36 rfl (lv_at hl 0 rfl) ?_
        exact RETN _ _ (nI sl) ((gt 10 0 now).2) _ _ dX4_takes1_37 (rfl) (by first | (rw [tk_1 ho]; exact ⟨rfl, rfl⟩) | (rw [tk_3 ho (by omega)]; exact ⟨rfl, rfl⟩) | (rw [tk_2 ho (by omega)]; exact ⟨by rw [ho3]; rfl, rfl⟩)) hP hD hS
      · skip
        exfalso
        exact ne9 (by omega) c28
    · skip
      exfalso
      exact ne9 (by omega) c8
set_option maxHeartbeats 4000000 in
set_option maxRecDepth 100000 in
theorem c_X4_inAll {l : Launch} {D : va_G} {cI cG cC cR : ClassId} {h : Nat → Nat} {now past bef tri tex : Nat → Int32} {pasts typed ati : Int32} {k : Int32} : CtI l yX4_inAll wsX4_inAll { frames := 1, cells := 0, slots := 0, locals := 24 } D (TY cI cG cC cR) [.ref (h 0), .int k] (MW h cI now past pasts bef tri tex typed ati) (fun (_ : Unit) => MW h cI now past pasts bef tri tex typed ati) (fun (r : Int32) (_ : Unit) => r = nI (tot now k)) := by
  refine CtI.of (cc := cX4_inAll) (maxL := 4) (ty := .int) (by decide) rfl (Nat.le_of_ble_eq_true rfl) ?_
  intro P0 e0 s0 m0 a0 b0 t0 c0 A0 Q0 ls F hK hP hD hA RETN hl
  obtain ⟨hx, hb, hml, hown, hts⟩ := id F
  have hS : va_S A0 s0.heap s0.heap [] := va_S.rf
  have hl : lv_has ls 4 [(0, .ref (h 0)), (1, .int k)] := hl
  refine lv_iconst (v := (nI 0)) hx hb dX4_inAll_0 (by decide) ?_
  refine lv_istore_n (lv' := [(2, .int (nI 0)), (0, .ref (h 0)), (1, .int k)]) hx hb dX4_inAll_1 rfl hl (by decide) rfl (fun ls hl => ?_)
  refine lv_iconst (v := (nI 0)) hx hb dX4_inAll_2 (by decide) ?_
  refine lv_istore_n (lv' := [(3, .int (nI 0)), (2, .int (nI 0)), (0, .ref (h 0)), (1, .int k)]) hx hb dX4_inAll_3 rfl hl (by decide) rfl (fun ls hl => ?_)
  have LP4 : ∀ (nn : Nat) (w : Nat) (n : Nat) (H : Heap) (locs : List Loc) (ls : Array Slot), w ≤ 10 → n = fb_sm (fun w => cw now w k) w → 10 - w < nn → va_P D vwCl (MW h cI now past pasts bef tri tex typed ati) H → va_D A0 (MW h cI now past pasts bef tri tex typed ati) → va_S A0 s0.heap H locs → lv_has ls 4 [(3, .int (nI w)), (2, .int (nI n)), (0, .ref (h 0)), (1, .int k)] → W P0 l e0 { frames := 1, cells := 0, slots := 0, locals := 24 } s0 m0 a0 b0 t0 c0 H locs 0 0 Q0 (F0 m0 4 ls []) := by
    intro nn
    induction nn with
    | zero => intro w n H locs ls hw hn hmu; exact absurd hmu (Nat.not_lt_zero _)
    | succ nn ih4 =>
      intro w n H locs ls hw hn hmu4 hP hD hS hl
      have hnl := tot_le now k w hw
      refine lv_iload_n hx hb dX4_inAll_4 rfl (lv_at hl 0 rfl) ?_
      refine lv_bipush (v := (nI 10)) hx hb dX4_inAll_5 (by decide) ?_
      refine lv_icmp_ge (tgt := 25) hx hb dX4_inAll_7 (by decide) (fun c7 => ?_) (fun c7 => ?_)
      · skip
        replace c7 : 10 ≤ w := by rw [nI_leI (by omega) (by omega)] at c7; exact c7
        refine lv_iload_n hx hb dX4_inAll_25 rfl (lv_at hl 1 rfl) ?_
        exact RETN _ _ (nI n) () _ _ dX4_inAll_26 (rfl) (by rw [hn, show w = 10 by omega]; rfl) hP hD hS
      · skip
        replace c7 : ¬ (10 ≤ w) := by rw [nI_leI (by omega) (by omega)] at c7; exact c7
        refine lv_iload_n hx hb dX4_inAll_10 rfl (lv_at hl 1 rfl) ?_
        refine lv_aload_n hx hb dX4_inAll_11 rfl (lv_at hl 2 rfl) ?_
        refine lv_iload_n hx hb dX4_inAll_12 rfl (lv_at hl 0 rfl) ?_
        refine lv_iload_n hx hb dX4_inAll_13 rfl (lv_at hl 3 rfl) ?_
        have hc := cw_le now w k
        refine cl_Vi (b := (h 0)) (As := [.int (nI w), .int k]) (rest := [.int (nI n)]) (wc := MW h cI now past pasts bef tri tex typed ati) (wsN := fun (_ : Unit) => MW h cI now past pasts bef tri tex typed ati) F hK hA hP hD hS (c_X4_inWord (by omega)) (cwV 2 hts gX4_inAll_X4_inWord rfl rfl rfl (by decide +kernel) ⟨Nat.le_of_ble_eq_true rfl, Nat.le_of_ble_eq_true rfl⟩) [0, 1, 2, 3, 4, 5] [] [0, 1, 2, 3, 4, 5] ([]) rfl rfl (fun _ => rfl) (by decide) (by decide) 0 rfl rfl rfl hl.1 rfl (Nat.le_of_ble_eq_true rfl) ⟨Nat.zero_le _, Nat.zero_le _⟩ dX4_inAll_14 (fun r_2 _ H locs hw_1 hP hD hS => ?_)
        try dsimp only at hw_1 hP hD
        obtain rfl : r_2 = (nI (cw now w k)) := hw_1
        refine lv_iadd hx hb dX4_inAll_17 ?_
        refine n_as (x' := nI (n + (cw now w k))) (nI_add _ _) ?_
        refine lv_istore_n (lv' := [(2, .int (nI (n + (cw now w k)))), (3, .int (nI w)), (0, .ref (h 0)), (1, .int k)]) hx hb dX4_inAll_18 rfl hl (by decide) rfl (fun ls hl => ?_)
        refine lv_iinc (v := (nI (w + 1))) (lv' := [(3, .int (nI (w + 1))), (2, .int (nI (n + (cw now w k)))), (0, .ref (h 0)), (1, .int k)]) hx hb dX4_inAll_19 hl (k := 1) rfl (n_inc1 _) (by decide) rfl (fun ls hl => ?_)
        refine lv_goto (tgt := 4) hx hb dX4_inAll_22 (by decide) ?_
        exact ih4 (w + 1) (n + (cw now w k)) _ _ _ (by omega) (by rw [fb_sm_succ, ← hn]) (by omega) hP hD hS (lv_sub hl [0, 1, 2, 3] rfl)
  exact LP4 _ 0 0 _ _ _ (by omega) (rfl) (Nat.lt_succ_self _) hP hD hS (lv_sub hl [0, 1, 2, 3] rfl)
set_option maxHeartbeats 4000000 in
set_option maxRecDepth 100000 in
theorem c_X4_runFrom {l : Launch} {D : va_G} {cI cG cC cR : ClassId} {h : Nat → Nat} {now past bef tri tex : Nat → Int32} {pasts typed ati : Int32} {m : Nat} (h1 : 1 ≤ m) (h2 : m ≤ 64) : CtI l yX4_runFrom wsX4_runFrom { frames := 0, cells := 0, slots := 0, locals := 0 } D (TY cI cG cC cR) [.ref (h 0), .int (nI m)] (MW h cI now past pasts bef tri tex typed ati) (fun (_ : Unit) => MW h cI now past pasts bef tri tex typed ati) (fun (r : Int32) (_ : Unit) => r = oI (rn now m 320 0 0)) := by
  refine CtI.of (cc := cX4_runFrom) (maxL := 4) (ty := .int) (by decide) rfl (Nat.le_of_ble_eq_true rfl) ?_
  intro P0 e0 s0 m0 a0 b0 t0 c0 A0 Q0 ls F hK hP hD hA RETN hl
  obtain ⟨hx, hb, hml, hown, hts⟩ := id F
  have hS : va_S A0 s0.heap s0.heap [] := va_S.rf
  have hl : lv_has ls 4 [(0, .ref (h 0)), (1, .int (nI m))] := hl
  have lk7 := hts (.fieldLink RX4 7 "SlotMapsModel" "now" "[I") (by decide +kernel)
  have hI4 : ∀ w ∈ u_ws RX4 TX4 8, w ∈ wsX4_runFrom := by decide +kernel
  refine lv_iconst (v := (nI 0)) hx hb dX4_runFrom_0 (by decide) ?_
  refine lv_istore_n (lv' := [(2, .int (nI 0)), (0, .ref (h 0)), (1, .int (nI m))]) hx hb dX4_runFrom_1 rfl hl (by decide) rfl (fun ls hl => ?_)
  refine lv_iconst (v := (nI 0)) hx hb dX4_runFrom_2 (by decide) ?_
  refine lv_istore_n (lv' := [(3, .int (nI 0)), (2, .int (nI 0)), (0, .ref (h 0)), (1, .int (nI m))]) hx hb dX4_runFrom_3 rfl hl (by decide) rfl (fun ls hl => ?_)
  have LP4 : ∀ (nn : Nat) (sl : Nat) (n : Nat) (H : Heap) (locs : List Loc) (ls : Array Slot), sl ≤ 320 → n ≤ sl → rn now m 320 0 0 = rn now m (320 - sl) sl n → 320 - sl < nn → va_P D vwCl (MW h cI now past pasts bef tri tex typed ati) H → va_D A0 (MW h cI now past pasts bef tri tex typed ati) → va_S A0 s0.heap H locs → lv_has ls 4 [(3, .int (nI sl)), (2, .int (nI n)), (0, .ref (h 0)), (1, .int (nI m))] → W P0 l e0 { frames := 0, cells := 0, slots := 0, locals := 0 } s0 m0 a0 b0 t0 c0 H locs 0 0 Q0 (F0 m0 4 ls []) := by
    intro nn
    induction nn with
    | zero => intro sl n H locs ls hs hn ha hmu; exact absurd hmu (Nat.not_lt_zero _)
    | succ nn ih4 =>
      intro sl n H locs ls hs hn ha hmu4 hP hD hS hl
      refine lv_iload_n hx hb dX4_runFrom_4 rfl (lv_at hl 0 rfl) ?_
      refine lv_sipush (v := (nI 320)) hx hb dX4_runFrom_5 (by decide) ?_
      refine lv_icmp_ge (tgt := 45) hx hb dX4_runFrom_8 (by decide) (fun c8 => ?_) (fun c8 => ?_)
      · skip
        replace c8 : 320 ≤ sl := by rw [nI_leI (by omega) (by omega)] at c8; exact c8
        refine lv_bipush (v := (-9)) hx hb dX4_runFrom_45 (by decide) ?_
        exact RETN _ _ (-9) () _ _ dX4_runFrom_47 (rfl) (by rw [ha, rn_end (by omega)]; rfl) hP hD hS
      · skip
        replace c8 : ¬ (320 ≤ sl) := by rw [nI_leI (by omega) (by omega)] at c8; exact c8
        refine lv_aload_n hx hb dX4_runFrom_11 rfl (lv_at hl 2 rfl) ?_
        refine va_get (D := D) (ci := 4) (v := .ref (h 1)) (C := RX4) (T := TX4) (N := 8) hx hb hts hI4 hown hK.1 hP 0 rfl rfl 0 (by decide) lk7 (fun _ h9 => h9) rfl dX4_runFrom_12 ?_
        refine lv_iload_n hx hb dX4_runFrom_15 rfl (lv_at hl 0 rfl) ?_
        refine n_iald hx hb hK hP 1 0 rfl rfl (by decide) (by omega) dX4_runFrom_16 ?_
        refine lv_if_ne (tgt := 26) hx hb dX4_runFrom_17 (by decide) (fun c17 => ?_) (fun c17 => ?_)
        · skip
          replace c17 : ¬ (now sl) = nI 0 := c17
          have hn1 : (if now sl = nI 0 then n + 1 else 0) = 0 := if_neg c17
          refine lv_iconst (v := (nI 0)) hx hb dX4_runFrom_26 (by decide) ?_
          refine lv_istore_n (lv' := [(2, .int (nI 0)), (3, .int (nI sl)), (0, .ref (h 0)), (1, .int (nI m))]) hx hb dX4_runFrom_27 rfl hl (by decide) rfl (fun ls hl => ?_)
          refine lv_iload_n hx hb dX4_runFrom_28 rfl (lv_at hl 0 rfl) ?_
          refine lv_iload_n hx hb dX4_runFrom_29 rfl (lv_at hl 3 rfl) ?_
          refine lv_icmp_ne (tgt := 39) hx hb dX4_runFrom_30 (by decide) (fun c30 => ?_) (fun c30 => ?_)
          · skip
            replace c30 : ¬ 0 = m := by rw [nI_eq (by omega) (by omega)] at c30; exact c30
            refine lv_iinc (v := (nI (sl + 1))) (lv' := [(3, .int (nI (sl + 1))), (2, .int (nI 0)), (0, .ref (h 0)), (1, .int (nI m))]) hx hb dX4_runFrom_39 hl (k := 1) rfl (n_inc1 _) (by decide) rfl (fun ls hl => ?_)
            refine lv_goto (tgt := 4) hx hb dX4_runFrom_42 (by decide) ?_
            exact ih4 (sl + 1) 0 _ _ _ (by omega) (by omega) (by rw [ha, rn_no (by omega) hn1 c30]) (by omega) hP hD hS (lv_sub hl [0, 1, 2, 3] rfl)
          · skip
            replace c30 : 0 = m := by rw [nI_eq (by omega) (by omega)] at c30; exact c30
            refine lv_iload_n hx hb dX4_runFrom_33 rfl (lv_at hl 1 rfl) ?_
            refine lv_iload_n hx hb dX4_runFrom_34 rfl (lv_at hl 3 rfl) ?_
            refine lv_isub hx hb dX4_runFrom_35 ?_
            refine lv_iconst (v := (nI 1)) hx hb dX4_runFrom_36 (by decide) ?_
            refine lv_iadd hx hb dX4_runFrom_37 ?_
            refine n_as (x' := (nI (sl + 1 - m))) (subadd (by omega)) ?_
            exact RETN _ _ (nI (sl + 1 - m)) () _ _ dX4_runFrom_38 (rfl) (by rw [ha, rn_yes (by omega) hn1 c30]; rfl) hP hD hS
        · skip
          replace c17 : (now sl) = nI 0 := c17
          have hn1 : (if now sl = nI 0 then n + 1 else 0) = n + 1 := if_pos c17
          refine lv_iload_n hx hb dX4_runFrom_20 rfl (lv_at hl 1 rfl) ?_
          refine lv_iconst (v := (nI 1)) hx hb dX4_runFrom_21 (by decide) ?_
          refine lv_iadd hx hb dX4_runFrom_22 ?_
          refine n_as (x' := nI (n + 1)) (nI_add _ _) ?_
          refine lv_goto (tgt := 27) hx hb dX4_runFrom_23 (by decide) ?_
          refine lv_istore_n (lv' := [(2, .int (nI (n + 1))), (3, .int (nI sl)), (0, .ref (h 0)), (1, .int (nI m))]) hx hb dX4_runFrom_27 rfl hl (by decide) rfl (fun ls hl => ?_)
          refine lv_iload_n hx hb dX4_runFrom_28 rfl (lv_at hl 0 rfl) ?_
          refine lv_iload_n hx hb dX4_runFrom_29 rfl (lv_at hl 3 rfl) ?_
          refine lv_icmp_ne (tgt := 39) hx hb dX4_runFrom_30 (by decide) (fun c30 => ?_) (fun c30 => ?_)
          · skip
            replace c30 : ¬ (n + 1) = m := by rw [nI_eq (by omega) (by omega)] at c30; exact c30
            refine lv_iinc (v := (nI (sl + 1))) (lv' := [(3, .int (nI (sl + 1))), (2, .int (nI (n + 1))), (0, .ref (h 0)), (1, .int (nI m))]) hx hb dX4_runFrom_39 hl (k := 1) rfl (n_inc1 _) (by decide) rfl (fun ls hl => ?_)
            refine lv_goto (tgt := 4) hx hb dX4_runFrom_42 (by decide) ?_
            exact ih4 (sl + 1) (n + 1) _ _ _ (by omega) (by omega) (by rw [ha, rn_no (by omega) hn1 c30]) (by omega) hP hD hS (lv_sub hl [0, 1, 2, 3] rfl)
          · skip
            replace c30 : (n + 1) = m := by rw [nI_eq (by omega) (by omega)] at c30; exact c30
            refine lv_iload_n hx hb dX4_runFrom_33 rfl (lv_at hl 1 rfl) ?_
            refine lv_iload_n hx hb dX4_runFrom_34 rfl (lv_at hl 3 rfl) ?_
            refine lv_isub hx hb dX4_runFrom_35 ?_
            refine lv_iconst (v := (nI 1)) hx hb dX4_runFrom_36 (by decide) ?_
            refine lv_iadd hx hb dX4_runFrom_37 ?_
            refine n_as (x' := (nI (sl + 1 - m))) (subadd (by omega)) ?_
            exact RETN _ _ (nI (sl + 1 - m)) () _ _ dX4_runFrom_38 (rfl) (by rw [ha, rn_yes (by omega) hn1 c30]; rfl) hP hD hS
  exact LP4 _ 0 0 _ _ _ (by omega) (by omega) (rfl) (Nat.lt_succ_self _) hP hD hS (lv_sub hl [0, 1, 2, 3] rfl)
