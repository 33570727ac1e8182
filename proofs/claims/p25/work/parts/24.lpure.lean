/-! facts of maps that the property stands on -/
theorem sl0 {f : Nat → Int32} {s : Nat} (h : s < 320) : slA f (nI s) (nI 0) = f s := by rw [slA_j (by omega) (by decide)]; rfl
theorem sl1 {f : Nat → Int32} {s : Nat} (h : s < 320) : slA f (nI s) (nI 1) = if f (320 + s) = nI 0 then -9 else f (320 + s) - nI 1 := by rw [slA_j (by omega) (by decide)]; rfl
theorem ct_any {f : Nat → Int32} {k tl k' tl' j : Nat} (h : j < 10) : ctA f k tl (nI j) = ctA f k' tl' (nI j) := by
  rw [ctA_j (by omega), ctA_j (by omega)]
  rcases (show j = 0 ∨ j = 1 ∨ j = 2 ∨ j = 3 ∨ j = 4 ∨ j = 5 ∨ j = 6 ∨ j = 7 ∨ j = 8 ∨ j = 9 by omega) with rfl | rfl | rfl | rfl | rfl | rfl | rfl | rfl | rfl | rfl <;> rfl
/-! all that is told, as one number -/
def mkI (g : Nat → Int64 → Int64) : Nat → Int64 → Int64
  | 0, h => h
  | n + 1, h => g n (mkI g n h)
theorem mkI_s (g : Nat → Int64 → Int64) (n : Nat) (h : Int64) : mkI g (n + 1) h = g n (mkI g n h) := rfl
def mk1 (f : Nat → Int32) (j : Nat) (h : Int64) : Int64 := 31 * h + (ctA f 0 0 (nI j)).toInt64
def mk2 (f : Nat → Int32) (j : Nat) (h : Int64) : Int64 := 31 * (31 * h + (slA f (nI j) (nI 0)).toInt64) + (slA f (nI j) (nI 1)).toInt64
def mk3 (f : Nat → Int32) (j : Nat) (h : Int64) : Int64 := 31 * h + (wdA f (nI j) (nI 4)).toInt64
def mk4 (f : Nat → Int32) (j : Nat) (h : Int64) : Int64 := 31 * (31 * h + (bkA f (nI j) (nI 0)).toInt64) + (bkA f (nI j) (nI 1)).toInt64
def mkF (f : Nat → Int32) : Int64 := mkI (mk4 f) 8 (mkI (mk3 f) 10 (mkI (mk2 f) 320 (mkI (mk1 f) 10 17)))
/-! failing calls -/
theorem fnNm {now g : Nat → Int32} : fnN now g (-1) = now := if_pos (by decide)
theorem fnPm {past now : Nat → Int32} {k : Nat} : fnP past k now (-1) = past := if_pos (by decide)
theorem fnKm {k : Nat} : fnK k (-1) = k := if_pos (by decide)
/-! counts of a word, of the map -/
def cdn (f : Nat → Int32) (k n e : Nat) : Nat := fb_ct (fun i => decide (f (n + i) = nI k)) (e - n)
theorem ct_pre (p : Nat → Bool) (s m : Nat) : fb_ct (fun i => p (s + i)) (m + 1) = fb_ct (fun i => p (s + 1 + i)) m + (if p s = true then 1 else 0) := by
  rw [show m + 1 = 1 + m by omega, fb_ct_split]
  have e : fb_ct (fun i => p (s + i)) 1 = if p s = true then 1 else 0 := by
    show 0 + (if p (s + 0) = true then 1 else 0) = _
    rw [Nat.zero_add, Nat.add_zero]
  rw [e, fb_ct_cong (q := fun i => p (s + 1 + i)) (fun i _ => by rw [show s + (1 + i) = s + 1 + i by omega])]
  omega
theorem cdn_s {f : Nat → Int32} {k s e : Nat} (h : s < e) : cdn f k s e = cdn f k (s + 1) e + (if f s = nI k then 1 else 0) := by
  unfold cdn
  rw [show e - s = (e - (s + 1)) + 1 by omega, ct_pre (fun j => decide (f j = nI k))]
  by_cases c : f s = nI k <;> simp [c]
theorem cdn_y {f : Nat → Int32} {k s e : Nat} (hs : f s = nI k) (h : s < e) : cdn f k s e = cdn f k (s + 1) e + 1 := by rw [cdn_s h, if_pos hs]
theorem cdn_n {f : Nat → Int32} {k s e j : Nat} (hs : f s = nI j) (hj : j < 4) (hk : k < 4) (h : s < e) (hjk : j ≠ k) : cdn f k s e = cdn f k (s + 1) e + 0 := by
  rw [cdn_s h, if_neg (by rw [hs, nI_eq (by omega) (by omega)]; exact hjk)]
theorem cdn_0 {f : Nat → Int32} {k e : Nat} : cdn f k e e = 0 := by unfold cdn; rw [Nat.sub_self]; rfl
theorem cdn_le (f : Nat → Int32) (k n e : Nat) : cdn f k n e ≤ e - n := fb_ct_le _ _
theorem cdn_cw (f : Nat → Int32) (k w : Nat) : cdn f k (32 * w) (32 * w + 32) = cw f w (nI k) := by unfold cdn cw; rw [show 32 * w + 32 - 32 * w = 32 by omega]
theorem ct_sum4 {f : Nat → Int32} {a : Nat} : ∀ {n : Nat}, (∀ i, i < n → ∃ k, k < 4 ∧ f (a + i) = nI k) → fb_ct (fun i => decide (f (a + i) = nI 0)) n + fb_ct (fun i => decide (f (a + i) = nI 1)) n + fb_ct (fun i => decide (f (a + i) = nI 2)) n + fb_ct (fun i => decide (f (a + i) = nI 3)) n = n
  | 0, _ => rfl
  | n + 1, h => by
    have h1 := ct_sum4 (n := n) (fun i hi => h i (by omega))
    obtain ⟨k, hk, e⟩ := h n (by omega)
    rw [fb_ct_succ, fb_ct_succ, fb_ct_succ, fb_ct_succ, e]
    rcases (show k = 0 ∨ k = 1 ∨ k = 2 ∨ k = 3 by omega) with rfl | rfl | rfl | rfl
    · rw [if_pos (decide_eq_true rfl), if_neg (by decide), if_neg (by decide), if_neg (by decide)]; omega
    · rw [if_neg (by decide), if_pos (decide_eq_true rfl), if_neg (by decide), if_neg (by decide)]; omega
    · rw [if_neg (by decide), if_neg (by decide), if_pos (decide_eq_true rfl), if_neg (by decide)]; omega
    · rw [if_neg (by decide), if_neg (by decide), if_neg (by decide), if_pos (decide_eq_true rfl)]; omega
theorem cw_sum {f : Nat → Int32} (h : KInv f) {w : Nat} (hw : w < 10) : cw f w (nI 0) + cw f w (nI 1) + cw f w (nI 2) + cw f w (nI 3) = 32 := ct_sum4 (fun i hi => h _ (by omega))
theorem tot_sum {f : Nat → Int32} (h : KInv f) : tot f (nI 0) + tot f (nI 1) + tot f (nI 2) + tot f (nI 3) = 320 := by
  unfold tot
  rw [← fb_sm_add, ← fb_sm_add, ← fb_sm_add, fb_sm_cong (g := fun _ => 32) (fun w hw => cw_sum h hw), fb_sm_const]
theorem sm_ct (q : Nat → Bool) : ∀ w, fb_sm (fun w => fb_ct (fun i => q (32 * w + i)) 32) w = fb_ct q (32 * w)
  | 0 => rfl
  | w + 1 => by rw [fb_sm_succ, sm_ct q w, show 32 * (w + 1) = 32 * w + 32 by omega, fb_ct_split]
theorem tot_ct (f : Nat → Int32) (k : Int32) : tot f k = fb_ct (fun s => decide (f s = k)) 320 := sm_ct (fun s => decide (f s = k)) 10
theorem tot_cong {f g : Nat → Int32} {k : Int32} (h : ∀ j, j < 320 → (g j = k ↔ f j = k)) : tot g k = tot f k := by
  rw [tot_ct, tot_ct]
  exact fb_ct_cong (fun s hs => deq (h s hs))
theorem tot_le3 (f : Nat → Int32) (k : Int32) : tot f k ≤ 320 := tot_le f k 10 (by decide)
theorem rt_t {f : Nat → Int32} {w : Nat} (h : cw f w (nI 0) = 0) : rt f w = nI 1 := by unfold rt; rw [decide_eq_true h]; rfl
theorem rt_f {f : Nat → Int32} {w : Nat} (h : ¬ cw f w (nI 0) = 0) : rt f w = nI 0 := by unfold rt; rw [decide_eq_false h]; rfl
theorem ls1_snoc (p : Nat → Bool) : ∀ (n a : Nat), ls1 p (n + 1) a = (match ls1 p n a with | some s => some s | none => if p (a + n) = true then some (a + n) else none)
  | 0, a => by
    show (if p a = true then some a else none) = _
    rw [Nat.add_zero]
    rfl
  | n + 1, a => by
    rw [ls1, ls1_snoc p n (a + 1)]
    by_cases c : p a = true
    · rw [if_pos c]
      show _ = (match (if p a = true then some a else ls1 p n (a + 1)) with | some s => some s | none => if p (a + (n + 1)) = true then some (a + (n + 1)) else none)
      rw [if_pos c]
    · rw [if_neg c]
      show _ = (match (if p a = true then some a else ls1 p n (a + 1)) with | some s => some s | none => if p (a + (n + 1)) = true then some (a + (n + 1)) else none)
      rw [if_neg c, show a + 1 + n = a + (n + 1) by omega]
theorem ls1_keep {p : Nat → Bool} {n a s : Nat} (h : ls1 p n a = some s) : ls1 p (n + 1) a = some s := by rw [ls1_snoc, h]
theorem ls1_new {p : Nat → Bool} {n : Nat} (h : ls1 p n 0 = none) (hp : p n = true) : ls1 p (n + 1) 0 = some n := by rw [ls1_snoc, h, Nat.zero_add]; exact if_pos hp
theorem ls1_off {p : Nat → Bool} {n : Nat} (hp : p n = false) : ls1 p (n + 1) 0 = ls1 p n 0 := by
  rw [ls1_snoc]
  cases e : ls1 p n 0 with
  | some s => rfl
  | none =>
    rw [Nat.zero_add, hp]
    rfl
/-! a slot that is taken -/
theorem gt_get : ∀ {n w : Nat} {f : Nat → Int32} {s : Nat}, w + n ≤ 10 → (gt n w f).1 = some s → (∃ q, 1 ≤ q ∧ q ≤ n ∧ (gt n w f).2 666 = f 666 + nI q) ∧ s < 320 ∧ f s = nI 0 ∧ ∀ j, j < 320 → (gt n w f).2 j = if j = s then nI 1 else f j
  | 0, _, _, _, _, h => by cases h
  | n + 1, w, f, s, hw, h => by
    rw [gt] at h ⊢
    by_cases c : f (640 + w) = nI 0
    · rw [if_pos c] at h ⊢
      cases ho : fi (lkP f) w with
      | none =>
        rw [ho] at h
        obtain ⟨⟨q, h1, h2, h3⟩, h4, h5, h6⟩ := gt_get (f := upd (lkP f) (640 + w) (nI 1)) (by omega) h
        rw [upd_n _ _ (by omega), lkP_n _ (by omega)] at h5
        refine ⟨⟨q + 1, by omega, by omega, ?_⟩, h4, h5, fun j hj => ?_⟩
        · show (gt n (w + 1) _).2 666 = _
          rw [h3, upd_n _ _ (by omega)]
          unfold lkP
          rw [upd_s, Int32.add_assoc, nI_add, Nat.add_comm 1 q]
        · show (gt n (w + 1) _).2 j = _
          rw [h6 j hj, upd_n _ _ (by omega), lkP_n _ (by omega)]
      | some s2 =>
        rw [ho] at h
        cases h
        obtain ⟨g1, g2, g3⟩ := fi_lt ho
        rw [lkP_n _ (by omega)] at g3
        refine ⟨⟨1, by omega, by omega, ?_⟩, by omega, g3, fun j hj => ?_⟩
        · show bc1 (lkP f) s (nI 1) 666 = _
          unfold bc1
          rw [upd_n _ _ (by omega), upd_n _ _ (by omega)]
          exact upd_s _ _ _
        · show bc1 (lkP f) s (nI 1) j = _
          unfold bc1
          rw [upd_n _ _ (by omega)]
          by_cases e : j = s
          · rw [e, upd_s, if_pos rfl]
          · rw [upd_n _ _ e, if_neg e, lkP_n _ (by omega)]
    · rw [if_neg c] at h ⊢
      obtain ⟨⟨q, h1, h2, h3⟩, h4⟩ := gt_get (by omega) h
      exact ⟨⟨q, h1, by omega, h3⟩, h4⟩
theorem gt_looks : ∀ {n w : Nat} {f : Nat → Int32}, w + n ≤ 10 → (gt n w f).1 = none → ∃ q, q ≤ n ∧ (gt n w f).2 666 = f 666 + nI q
  | 0, _, f, _, _ => ⟨0, Nat.le_refl _, (Int32.add_zero _).symm⟩
  | n + 1, w, f, hw, h => by
    rw [gt] at h ⊢
    by_cases c : f (640 + w) = nI 0
    · rw [if_pos c] at h ⊢
      cases ho : fi (lkP f) w with
      | none =>
        rw [ho] at h
        obtain ⟨q, h2, h3⟩ := gt_looks (f := upd (lkP f) (640 + w) (nI 1)) (by omega) h
        refine ⟨q + 1, by omega, ?_⟩
        show (gt n (w + 1) _).2 666 = _
        rw [h3, upd_n _ _ (by omega)]
        unfold lkP
        rw [upd_s, Int32.add_assoc, nI_add, Nat.add_comm 1 q]
      | some s2 =>
        rw [ho] at h
        cases h
    · rw [if_neg c] at h ⊢
      obtain ⟨q, h2, h3⟩ := gt_looks (by omega) h
      exact ⟨q, by omega, h3⟩
theorem clF_tot (f : Nat → Int32) : tot (clF f 10) (nI 2) = 0 := by
  have h := fb_sm_bound (f := fun w => cw (clF f 10) w (nI 2)) (c := 0) (n := 10) (fun w hw => by
    show cw (clF f 10) w (nI 2) ≤ 0
    rw [(clF_cw hw).1]
    omega)
  unfold tot
  omega
theorem tot_pos {f : Nat → Int32} (h : 0 < clN f 10) : 0 < tot f (nI 2) := by
  refine Nat.lt_of_lt_of_le h ?_
  unfold clN tot
  refine fb_sm_le (fun w _ => ?_)
  show (if selB f 10 w = true then cw f w (nI 2) else 0) ≤ cw f w (nI 2)
  split
  · exact Nat.le_refl _
  · exact Nat.zero_le _
/-- what a taken slot tells -/
theorem tk_get {f : Nat → Int32} {s : Nat} (h : (tk f).1 = some s) : (∃ q, 1 ≤ q ∧ q ≤ 20 ∧ (tk f).2 666 = f 666 + nI q) ∧ s < 320 ∧ (tk f).2 s = nI 1 ∧ ((tot (tk f).2 (nI 2) = tot f (nI 2) ∧ f s = nI 0) ∨ (tot (tk f).2 (nI 2) = 0 ∧ 0 < tot f (nI 2))) := by
  cases h1 : (gt 10 0 f).1 with
  | some s2 =>
    rw [tk_1 h1] at h ⊢
    cases h
    obtain ⟨⟨q, g1, g2, g3⟩, g4, g5, g6⟩ := gt_get (n := 10) (w := 0) (by omega) h1
    refine ⟨⟨q, g1, by omega, g3⟩, g4, by show (gt 10 0 f).2 s = _; rw [g6 s g4, if_pos rfl], Or.inl ⟨tot_cong (fun j hj => ?_), g5⟩⟩
    show (gt 10 0 f).2 j = _ ↔ _
    rw [g6 j hj]
    by_cases e : j = s
    · rw [if_pos e, e, g5]
      exact ⟨fun q => absurd q (by decide), fun q => absurd q (by decide)⟩
    · rw [if_neg e]
  | none =>
    obtain ⟨-, e4, -, -⟩ := gt_none (n := 10) (w := 0) rfl h1
    obtain ⟨q0, l1, l2⟩ := gt_looks (n := 10) (w := 0) (by omega) h1
    by_cases h2 : 0 < clN (gt 10 0 f).2 10
    · rw [tk_2 h1 h2] at h ⊢
      obtain ⟨⟨q, g1, g2, g3⟩, g4, g5, g6⟩ := gt_get (n := 10) (w := 0) (by omega) h
      have e0 : clF (gt 10 0 f).2 10 666 = (gt 10 0 f).2 666 := bec_own (by omega) (by omega)
      refine ⟨⟨q0 + q, by omega, by omega, by rw [g3, e0, l2, Int32.add_assoc, nI_add]⟩, g4, by rw [g6 s g4, if_pos rfl], Or.inr ⟨?_, ?_⟩⟩
      · refine (tot_cong (f := clF (gt 10 0 f).2 10) (fun j hj => ?_)).trans (clF_tot (gt 10 0 f).2)
        rw [g6 j hj]
        by_cases e : j = s
        · rw [if_pos e, e, g5]
          exact ⟨fun q => absurd q (by decide), fun q => absurd q (by decide)⟩
        · rw [if_neg e]
      · rw [← tot_cong (f := f) (g := (gt 10 0 f).2) (k := nI 2) (fun j hj => by rw [e4 j (by omega)])]
        exact tot_pos h2
    · rw [tk_3 h1 h2] at h
      cases h
theorem tk_yes {f : Nat → Int32} (h : 0 < reach f) : ∃ s, (tk f).1 = some s := by
  cases e : (tk f).1 with
  | some s => exact ⟨s, rfl⟩
  | none =>
    have := tk_none e
    omega
theorem tk_no {f : Nat → Int32} (h : reach f = 0) : (tk f).1 = none := by
  cases e : (tk f).1 with
  | none => rfl
  | some s =>
    have := tk_some e
    omega
theorem o3_pos {s : Nat} (h : s < 320) : ¬ o3 (some s) < 0 := nI_pos (n := s) (by omega)
/-- as many as told can be taken -/
theorem tmR_all : ∀ {m r : Nat} {a : Int32} {f : Nat → Int32}, ¬ a < 0 → reach f = m + r → ¬ (tmR m a f).1 < 0 ∧ reach (tmR m a f).2 = r
  | 0, r, a, f, ha, h => ⟨ha, by rw [Nat.zero_add] at h; exact h⟩
  | m + 1, r, a, f, ha, h => by
    obtain ⟨s, hs⟩ := tk_yes (f := f) (by omega)
    have h1 := tk_some hs
    rw [tmR, if_neg ha, hs]
    exact tmR_all (o3_pos (tk_lt hs)) (by omega)
/-- one more can't -/
theorem tmR_more : ∀ {m : Nat} {a : Int32} {f : Nat → Int32}, ¬ a < 0 → reach f = m → (tmR (m + 1) a f).1 < 0
  | 0, a, f, ha, h => by
    rw [tmR, if_neg ha, tk_no h]
    show (-3 : Int32) < 0
    decide
  | m + 1, a, f, ha, h => by
    obtain ⟨s, hs⟩ := tk_yes (f := f) (by omega)
    have h1 := tk_some hs
    rw [tmR, if_neg ha, hs]
    exact tmR_more (o3_pos (tk_lt hs)) (by omega)
theorem reach_320 {f : Nat → Int32} (h : KInv f) : reach f ≤ 320 := by
  refine Nat.le_trans (fb_sm_bound (c := 32) (fun w hw => ?_)) (by decide)
  have := cw_sum h hw
  unfold rc
  split <;> omega
/-! the text of a program that takes -/
def TyOk (t : Nat → Int32) (tl m : Nat) : Prop := tl ≤ 80 ∧ (∀ i, i < tl → ∃ c, 1 ≤ c ∧ c ≤ 255 ∧ t i = nI c) ∧ ∃ a2, tl = a2 + 1 ∧ 1 ≤ a2 ∧ sg t tl 0 = nI 116 ∧ dgB t tl 1 = true ∧ nm t tl 1 = (m, a2) ∧ sg t tl a2 = nI 59
theorem ty_ro {f t : Nat → Int32} {tl m : Nat} (h : TyOk t tl m) : ro f t tl 0 = (if (tmA f (nI m)).1 < 0 then (false, 0, (tmA f (nI m)).2) else (true, tl, (tmA f (nI m)).2)) := by
  obtain ⟨-, -, a2, h1, h2, h3, h4, h5, h6⟩ := h
  have hl : ltB (sg t tl 0) = true := by rw [h3]; decide
  have hd : ∀ a b, doA f 116 a b = tmA f a := fun a b => if_pos rfl
  rw [ro_k hl h3 (by decide), roL_2 (by decide) h4, h5, roF_1 (Or.inl (by decide))]
  by_cases c : (tmA f (nI m)).1 < 0
  · rw [roE_2 h6 (by rw [hd]; exact c), if_pos c, hd]
  · rw [roE_3 h6 (by rw [hd]; exact c), if_neg c, hd, h1]
theorem ty_run {f t : Nat → Int32} {tl m : Nat} (h : TyOk t tl m) (c : ¬ (tmA f (nI m)).1 < 0) : rnA f t tl = (nI 1, (tmA f (nI m)).2) := by
  obtain ⟨h0, -, a2, h1, -⟩ := id h
  have e := ty_ro (f := f) h
  rw [if_neg c] at e
  unfold rnA
  rw [rnG_go (by omega) (by omega) (by rw [e]), e]
  exact rnG_end (Nat.le_refl _)
theorem ty_fail {f t : Nat → Int32} {tl m : Nat} (h : TyOk t tl m) (c : (tmA f (nI m)).1 < 0) : (rnA f t tl).1 = -1000 := by
  obtain ⟨h0, -, a2, h1, -⟩ := id h
  have e := ty_ro (f := f) h
  rw [if_pos c] at e
  unfold rnA
  rw [rnG_no (by omega) (by omega) (by rw [e]), e]
  show (-1000 : Int32) - nI 0 = -1000
  decide
theorem dn_lt {n a : Nat} (hn : n < 2 ^ 30) (ha : a < 2 ^ 30) : dn n < nI a ↔ n ≤ a := by
  rw [Int32.lt_iff_toInt_lt]
  unfold dn
  rw [pk_sub_toInt hn (by decide), nI_toInt (by omega)]
  omega
theorem fr_y {f : Nat → Int32} {s : Nat} (h : f s = nI 0) : fr f s = true := decide_eq_true h
theorem fr_n {f : Nat → Int32} {s j : Nat} (h : f s = nI j) (h0 : 0 < j) (h4 : j < 4) : fr f s = false := decide_eq_false (by rw [h, nI_eq (by omega) (by decide)]; omega)
theorem biN_s (f : Nat → Int32) (w : Nat) : biN f (w + 1) = biN f w + (if f (640 + w) = nI 1 then 1 else 0) := (ct_s (fun w => f (640 + w) = nI 1) w).symm
theorem fuN_s (f : Nat → Int32) (w : Nat) : fuN f (w + 1) = fuN f w + (if rt f w = nI 1 then 1 else 0) := (ct_s (fun w => rt f w = nI 1) w).symm
theorem wr_s (f : Nat → Int32) (w : Nat) : fb_ct (wr f) (w + 1) = fb_ct (wr f) w + (if ¬ f (640 + w) = rt f w then 1 else 0) := (ct_s (fun w => ¬ f (640 + w) = rt f w) w).symm
theorem wr1_s (f : Nat → Int32) (w : Nat) : fb_ct (wr1 f) (w + 1) = fb_ct (wr1 f) w + (if ¬ f (640 + w) = rt f w ∧ f (640 + w) = nI 1 then 1 else 0) := (ct_s (fun w => ¬ f (640 + w) = rt f w ∧ f (640 + w) = nI 1) w).symm
theorem wr_y {f : Nat → Int32} {w : Nat} {a b : Int32} (h : f (640 + w) = a) (h2 : rt f w = b) (hn : ¬ a = b) : wr f w = true := decide_eq_true (by rw [h, h2]; exact hn)
theorem wr_n {f : Nat → Int32} {w : Nat} {a : Int32} (h : f (640 + w) = a) (h2 : rt f w = a) : wr f w = false := decide_eq_false (fun q => q (by rw [h, h2]))
/-! the three texts -/
theorem sg_in {t : Nat → Int32} {tl a : Nat} (h : a < tl) : sg t tl a = t a := if_pos h
theorem dg_y {t : Nat → Int32} {tl a d : Nat} (h : sg t tl a = nI (48 + d)) (hd : d ≤ 9) : dgB t tl a = true ∧ dg t tl a = d := by
  refine ⟨by unfold dgB; rw [h]; exact inB_of (by decide) (by omega) (by omega), ?_⟩
  unfold dg
  rw [h, nI_clamp (by omega)]
  omega
theorem dg_59 {t : Nat → Int32} {tl a : Nat} (h : sg t tl a = nI 59) : dgB t tl a = false := by
  unfold dgB
  rw [h]
  decide
theorem ok_c {c : Nat} (h1 : 1 ≤ c) (h2 : c ≤ 255) {t : Nat → Int32} {i : Nat} (h : t i = nI c) : ∃ c, 1 ≤ c ∧ c ≤ 255 ∧ t i = nI c := ⟨c, h1, h2, h⟩
theorem ty_1 (t : Nat → Int32) {m : Nat} (h : m ≤ 9) : TyOk (upd (upd (upd t 0 (nI 116)) 1 (nI (48 + m % 10))) 2 (nI 59)) 3 m := by
  obtain ⟨g, hg⟩ : ∃ g, g = upd (upd (upd t 0 (nI 116)) 1 (nI (48 + m % 10))) 2 (nI 59) := ⟨_, rfl⟩
  have g0 : g 0 = nI 116 := by rw [hg, upd_n _ _ (by decide), upd_n _ _ (by decide), upd_s]
  have g1 : g 1 = nI (48 + m % 10) := by rw [hg, upd_n _ _ (by decide), upd_s]
  have g2 : g 2 = nI 59 := by rw [hg, upd_s]
  rw [← hg]
  have d1 := dg_y (t := g) (tl := 3) (a := 1) (by rw [sg_in (by decide)]; exact g1) (by omega)
  have d2 := dg_59 (t := g) (tl := 3) (a := 2) (by rw [sg_in (by decide)]; exact g2)
  refine ⟨by decide, fun i hi => ?_, 2, rfl, by decide, by rw [sg_in (by decide)]; exact g0, d1.1, ?_, by rw [sg_in (by decide)]; exact g2⟩
  · rcases (show i = 0 ∨ i = 1 ∨ i = 2 by omega) with rfl | rfl | rfl
    · exact ok_c (by decide) (by decide) g0
    · exact ok_c (by omega) (by omega) g1
    · exact ok_c (by decide) (by decide) g2
  · unfold nm
    rw [d1.2, nmG_no (Or.inr d2)]
    exact congrArg (fun q => (q, 2)) (by omega)
theorem ty_2 (t : Nat → Int32) {m : Nat} (h0 : 10 ≤ m) (h : m ≤ 99) : TyOk (upd (upd (upd (upd t 0 (nI 116)) 1 (nI (48 + m / 10 % 10))) 2 (nI (48 + m % 10))) 3 (nI 59)) 4 m := by
  obtain ⟨g, hg⟩ : ∃ g, g = upd (upd (upd (upd t 0 (nI 116)) 1 (nI (48 + m / 10 % 10))) 2 (nI (48 + m % 10))) 3 (nI 59) := ⟨_, rfl⟩
  have g0 : g 0 = nI 116 := by rw [hg, upd_n _ _ (by decide), upd_n _ _ (by decide), upd_n _ _ (by decide), upd_s]
  have g1 : g 1 = nI (48 + m / 10 % 10) := by rw [hg, upd_n _ _ (by decide), upd_n _ _ (by decide), upd_s]
  have g2 : g 2 = nI (48 + m % 10) := by rw [hg, upd_n _ _ (by decide), upd_s]
  have g3 : g 3 = nI 59 := by rw [hg, upd_s]
  rw [← hg]
  have d1 := dg_y (t := g) (tl := 4) (a := 1) (by rw [sg_in (by decide)]; exact g1) (by omega)
  have d2 := dg_y (t := g) (tl := 4) (a := 2) (by rw [sg_in (by decide)]; exact g2) (by omega)
  have d3 := dg_59 (t := g) (tl := 4) (a := 3) (by rw [sg_in (by decide)]; exact g3)
  refine ⟨by decide, fun i hi => ?_, 3, rfl, by decide, by rw [sg_in (by decide)]; exact g0, d1.1, ?_, by rw [sg_in (by decide)]; exact g3⟩
  · rcases (show i = 0 ∨ i = 1 ∨ i = 2 ∨ i = 3 by omega) with rfl | rfl | rfl | rfl
    · exact ok_c (by decide) (by decide) g0
    · exact ok_c (by omega) (by omega) g1
    · exact ok_c (by omega) (by omega) g2
    · exact ok_c (by decide) (by decide) g3
  · unfold nm
    rw [d1.2, nmG, if_pos ⟨by omega, d2.1⟩, d2.2, nmG_no (Or.inr d3)]
    exact congrArg (fun q => (q, 3)) (by omega)
theorem ty_3 (t : Nat → Int32) {m : Nat} (h0 : 100 ≤ m) (h : m ≤ 320) : TyOk (upd (upd (upd (upd (upd t 0 (nI 116)) 1 (nI (48 + m / 100))) 2 (nI (48 + m / 10 % 10))) 3 (nI (48 + m % 10))) 4 (nI 59)) 5 m := by
  obtain ⟨g, hg⟩ : ∃ g, g = upd (upd (upd (upd (upd t 0 (nI 116)) 1 (nI (48 + m / 100))) 2 (nI (48 + m / 10 % 10))) 3 (nI (48 + m % 10))) 4 (nI 59) := ⟨_, rfl⟩
  have g0 : g 0 = nI 116 := by rw [hg, upd_n _ _ (by decide), upd_n _ _ (by decide), upd_n _ _ (by decide), upd_n _ _ (by decide), upd_s]
  have g1 : g 1 = nI (48 + m / 100) := by rw [hg, upd_n _ _ (by decide), upd_n _ _ (by decide), upd_n _ _ (by decide), upd_s]
  have g2 : g 2 = nI (48 + m / 10 % 10) := by rw [hg, upd_n _ _ (by decide), upd_n _ _ (by decide), upd_s]
  have g3 : g 3 = nI (48 + m % 10) := by rw [hg, upd_n _ _ (by decide), upd_s]
  have g4 : g 4 = nI 59 := by rw [hg, upd_s]
  rw [← hg]
  have d1 := dg_y (t := g) (tl := 5) (a := 1) (by rw [sg_in (by decide)]; exact g1) (by omega)
  have d2 := dg_y (t := g) (tl := 5) (a := 2) (by rw [sg_in (by decide)]; exact g2) (by omega)
  have d3 := dg_y (t := g) (tl := 5) (a := 3) (by rw [sg_in (by decide)]; exact g3) (by omega)
  refine ⟨by decide, fun i hi => ?_, 4, rfl, by decide, by rw [sg_in (by decide)]; exact g0, d1.1, ?_, by rw [sg_in (by decide)]; exact g4⟩
  · rcases (show i = 0 ∨ i = 1 ∨ i = 2 ∨ i = 3 ∨ i = 4 by omega) with rfl | rfl | rfl | rfl | rfl
    · exact ok_c (by decide) (by decide) g0
    · exact ok_c (by omega) (by omega) g1
    · exact ok_c (by omega) (by omega) g2
    · exact ok_c (by omega) (by omega) g3
    · exact ok_c (by decide) (by decide) g4
  · unfold nm
    rw [d1.2, nmG, if_pos ⟨by omega, d2.1⟩, d2.2, nmG, if_pos ⟨by omega, d3.1⟩, d3.2]
    exact congrArg (fun q => (q, 4)) (by omega)
