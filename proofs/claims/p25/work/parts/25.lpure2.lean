/-! kept slots are owned; blocks counted slot by slot -/
def K3 (f : Nat → Int32) : Prop := ∀ s, s < 320 → f s = nI 3 → ¬ f (320 + s) = nI 0
theorem K3_bec {f : Nat → Int32} {P : Nat → Bool} {v : Nat → Int32} (h : K3 f) (hv : ∀ j, j < 320 → P j = true → v j = nI 3 → ¬ f (320 + j) = nI 0) : K3 (bec f P v) := by
  intro s hs e
  rw [bec_own (by omega) (by omega)]
  rw [bec_slot hs] at e
  by_cases c : P s = true
  · rw [if_pos c] at e
    exact hv s hs c e
  · rw [if_neg c] at e
    exact h s hs e
theorem K3_same {f g : Nat → Int32} (h : K3 f) (e : ∀ j, j < 640 → g j = f j) : K3 g := by
  intro s hs q
  rw [e _ (by omega)] at q ⊢
  exact h s hs q
theorem K3_upd {f : Nat → Int32} {j : Nat} {x : Int32} (h : K3 f) (hj : 640 ≤ j) : K3 (upd f j x) := K3_same h (fun i hi => upd_n _ _ (by omega))
theorem K3_bc1 {f : Nat → Int32} {s : Nat} (h : K3 f) (hs : s < 320) : K3 (bc1 f s (nI 1)) := by
  rw [bc1_bec hs]
  exact K3_bec h (fun _ _ _ q => absurd q (by decide))
theorem K3_gt : ∀ {n w : Nat} {f : Nat → Int32}, w + n ≤ 10 → K3 f → K3 (gt n w f).2
  | 0, _, _, _, h => h
  | n + 1, w, f, hw, h => by
    have hl : K3 (lkP f) := K3_upd h (by decide)
    rw [gt]
    by_cases c : f (640 + w) = nI 0
    · rw [if_pos c]
      cases ho : fi (lkP f) w with
      | none => exact K3_gt (by omega) (K3_upd hl (by omega))
      | some s =>
        have := fi_lt ho
        exact K3_bc1 hl (by omega)
    · rw [if_neg c]
      exact K3_gt (by omega) h
theorem K3_clF {f : Nat → Int32} {n : Nat} (h : K3 f) : K3 (clF f n) := K3_bec h (fun _ _ _ q => absurd q (by decide))
theorem K3_tk {f : Nat → Int32} (h : K3 f) : K3 (tk f).2 := by
  have h0 : K3 (gt 10 0 f).2 := K3_gt (by omega) h
  cases h1 : (gt 10 0 f).1 with
  | some s => rw [tk_1 h1]; exact h0
  | none =>
    by_cases h2 : 0 < clN (gt 10 0 f).2 10
    · rw [tk_2 h1 h2]; exact K3_gt (by omega) (K3_clF h0)
    · rw [tk_3 h1 h2]; exact K3_clF h0
theorem K3_tr {f : Nat → Int32} {v : Int32} (h : K3 f) : K3 (trA f v).2 := by
  unfold trA
  split
  · split
    · exact K3_bec (K3_upd h (by decide)) (fun _ _ _ q => absurd q (by decide))
    · exact h
  · exact h
theorem K3_gb {f : Nat → Int32} {a b : Int32} (h : K3 f) : K3 (gbA f a b).2 := by
  unfold gbA
  split
  · refine K3_bec h (fun j hj e q => ?_)
    unfold gbv at q
    by_cases c : 0 < f (320 + j)
    · intro z
      rw [z] at c
      exact absurd c (by decide)
    · rw [if_neg c] at q
      exact absurd q (by decide)
  · exact h
theorem K3_cl {f : Nat → Int32} {v : Int32} (h : K3 f) : K3 (clA f v).2 := by
  unfold clA
  split
  · exact K3_clF h
  · exact h
theorem K3_ti {f : Nat → Int32} {v : Int32} (hI : Inv f) (h : K3 f) : K3 (tiA f v).2 := by
  cases hs : isB f v with
  | false => rw [tiA_n hs]; exact h
  | true =>
    obtain ⟨k, hk, rfl, h0⟩ := isB_t hs
    obtain ⟨p, z, hp, hz, hok, hmod, hpz⟩ := hI.2.2.1 k (by omega) h0
    rw [tiA_s hk hs hp hz hpz]
    cases hq : kp f p z with
    | none => exact h
    | some s =>
      obtain ⟨-, h2, -, -⟩ := ls1_some hq
      exact K3_bc1 h (by omega)
theorem K3_dm {f : Nat → Int32} {v : Int32} (h : K3 f) : K3 (dmA f v).2 := by
  cases hs : inB v (nI 0) (nI 9) with
  | false => rw [dmA_n hs]; exact h
  | true =>
    obtain ⟨w, -, hw, rfl⟩ := inB_nat (by decide) (by decide) hs
    rw [dmA_s hw]
    exact K3_upd h (by omega)
theorem K3_rp {f : Nat → Int32} (h : K3 f) : K3 (rpA f).2 := K3_same h (fun j hj => if_neg (by omega))
theorem K3_ow {f : Nat → Int32} {p n : Nat} {x : Int32} (h : K3 f) (hx : ∀ s, p ≤ s → s < p + n → s < 320 → f s = nI 3 → ¬ x = nI 0) : K3 (ow f p n x) := by
  intro s hs e
  unfold ow at e ⊢
  rw [if_neg (by omega)] at e
  by_cases c : 320 + p ≤ 320 + s ∧ 320 + s < 320 + p + n
  · rw [if_pos c]
    exact hx s (by omega) (by omega) hs e
  · rw [if_neg c]
    exact h s hs e
theorem K3_rs {f : Nat → Int32} {v : Int32} (h : K3 f) : K3 (rsA f v).2 := by
  cases hs : szB v with
  | false => rw [rsA_n hs]; exact h
  | true =>
    obtain ⟨z, rfl, hz⟩ := szB_t hs
    cases hu : ub f with
    | none => rw [rsA_0 hz (Or.inl hu)]; exact h
    | some b =>
      cases hp : pl f z with
      | none => rw [rsA_0 hz (Or.inr hp)]; exact h
      | some p =>
        rw [rsA_s hz hu hp]
        obtain ⟨-, hb, -, -⟩ := ls1_some hu
        have hne : ¬ nI (b + 1) = nI 0 := by rw [nI_eq (by omega) (by decide)]; omega
        have hB : K3 (blk f b p z) := K3_upd (K3_upd h (by omega)) (by omega)
        have hO : K3 (ow (blk f b p z) p z (nI (b + 1))) := K3_ow hB (fun _ _ _ _ _ => hne)
        refine K3_bec hO (fun j hj e _ => ?_)
        unfold ow
        have := rg_iff.mp e
        rw [if_pos (by omega)]
        exact hne
theorem K3_gu {f : Nat → Int32} {v : Int32} (hI : Inv f) (h : K3 f) : K3 (guA f v).2 := by
  cases hs : isB f v with
  | false => rw [guA_n hs]; exact h
  | true =>
    obtain ⟨k, hk, rfl, h0⟩ := isB_t hs
    obtain ⟨p, z, hp, hz, hok, hmod, hpz⟩ := hI.2.2.1 k (by omega) h0
    rw [guA_s hk hs hp hz hpz]
    show K3 (upd (upd (guF f p z) (650 + 2 * k) (nI 0)) (650 + 2 * k + 1) (nI 0))
    refine K3_upd (K3_upd ?_ (by omega)) (by omega)
    intro s hs9 e
    unfold guF at e ⊢
    rw [bec_own (by omega) (by omega)]
    rw [bec_slot hs9] at e
    have es : ow f p z (nI 0) s = f s := ow_slot hs9
    by_cases c : (rg p z s && decide (f s = nI 3)) = true
    · rw [if_pos c] at e
      exact absurd e (by decide)
    · rw [if_neg c, es] at e
      unfold ow
      by_cases c2 : 320 + p ≤ 320 + s ∧ 320 + s < 320 + p + z
      · exact absurd (by rw [Bool.and_eq_true]; exact ⟨rg_iff.mpr (by omega), decide_eq_true e⟩) c
      · rw [if_neg c2]
        exact h s hs9 e
theorem isB_i {f : Nat → Int32} {b : Nat} (h : b < 8) : isB f (nI b) = decide (0 < f (650 + 2 * b + 1)) := isB_k (by omega)
theorem ct_rg (R : Nat → Bool) (p : Nat) : ∀ (z : Nat), fb_ct (fun s => R s && decide (p ≤ s ∧ s < p + z)) (p + z) = fb_ct (fun i => R (p + i)) z := by
  intro z
  rw [fb_ct_split]
  have e : fb_ct (fun s => R s && decide (p ≤ s ∧ s < p + z)) p = 0 := fb_ct_zero.mpr (fun k hk => by rw [decide_eq_false (by omega), Bool.and_false])
  rw [e, Nat.zero_add]
  exact fb_ct_cong (fun i hi => by rw [decide_eq_true (by omega), Bool.and_true])
theorem ct_rg3 (R : Nat → Bool) {p z : Nat} (h : p + z ≤ 320) : fb_ct (fun s => R s && decide (p ≤ s ∧ s < p + z)) 320 = fb_ct (fun i => R (p + i)) z := by
  obtain ⟨m, hm⟩ := Nat.le.dest h
  rw [← hm, fb_ct_split, ct_rg]
  have e : fb_ct (fun k => R (p + z + k) && decide (p ≤ p + z + k ∧ p + z + k < p + z)) m = 0 := fb_ct_zero.mpr (fun k hk => by rw [decide_eq_false (by omega), Bool.and_false])
  rw [e]
  rfl
/-- how many slots with R the first n blocks have -/
def bsum (f : Nat → Int32) (R : Nat → Bool) (n : Nat) : Nat := fb_sm (fun b => if isB f (nI b) = true then fb_ct (fun i => R (bp f b + i)) (bz f b) else 0) n
theorem ct_ib {f : Nat → Int32} (hB : BInv f) (R : Nat → Bool) {b : Nat} (hb : b < 8) : fb_ct (fun s => R s && ibB f b s) 320 = if isB f (nI b) = true then fb_ct (fun i => R (bp f b + i)) (bz f b) else 0 := by
  rw [isB_i hb]
  by_cases c : 0 < f (650 + 2 * b + 1)
  · obtain ⟨p, z, hp, hz, hok, hmod, hpz⟩ := hB b hb c
    have hzl := okz_le hok
    rw [if_pos (decide_eq_true c)]
    have e1 : bp f b = p := by unfold bp; rw [hp, nI_clamp (by omega)]
    have e2 : bz f b = z := by unfold bz; rw [hz, nI_clamp (by omega)]
    rw [e1, e2, ← ct_rg3 R hpz]
    exact fb_ct_cong (fun s hs => by rw [ib_of hp hz hok hpz])
  · rw [if_neg (by rw [decide_eq_true_iff]; exact c)]
    refine fb_ct_zero.mpr (fun s hs => ?_)
    unfold ibB
    rw [decide_eq_false c]
    simp
def exB (f : Nat → Int32) : Nat → Nat → Bool
  | 0, _ => false
  | n + 1, s => exB f n s || ibB f n s
theorem exB_own {f : Nat → Int32} {s o : Nat} (h : ∀ b, b < 8 → (o = b + 1 ↔ ibB f b s = true)) : ∀ {n : Nat}, n ≤ 8 → (exB f n s = true ↔ 0 < o ∧ o ≤ n)
  | 0, _ => by
    show false = true ↔ _
    constructor
    · intro q; cases q
    · intro q; omega
  | n + 1, hn => by
    show (exB f n s || ibB f n s) = true ↔ _
    rw [Bool.or_eq_true, exB_own h (by omega), ← h n (by omega)]
    omega
theorem ct_ex {f : Nat → Int32} (hB : BInv f) (hO : Own f) (R : Nat → Bool) : ∀ {n : Nat}, n ≤ 8 → fb_ct (fun s => R s && exB f n s) 320 = bsum f R n
  | 0, _ => fb_ct_zero.mpr (fun s _ => by show (R s && false) = false; rw [Bool.and_false])
  | n + 1, hn => by
    have h1 := ct_ex hB hO R (n := n) (by omega)
    have h2 := ct_ib hB R (b := n) (by omega)
    have h3 : bsum f R (n + 1) = bsum f R n + (if isB f (nI n) = true then fb_ct (fun i => R (bp f n + i)) (bz f n) else 0) := fb_sm_succ _ _
    rw [h3, ← h1, ← h2, ← fb_ct_or (fun s hs => ?_)]
    · refine fb_ct_cong (fun s _ => ?_)
      show (R s && (exB f n s || ibB f n s)) = _
      cases R s <;> rfl
    · rintro ⟨q1, q2⟩
      rw [Bool.and_eq_true] at q1 q2
      obtain ⟨o, -, -, h5, -⟩ := hO s hs
      have a1 := (exB_own h5 (show n ≤ 8 by omega)).mp q1.2
      have a2 := (h5 n (by omega)).mpr q2.2
      omega
/-- the owned slots with R, block by block -/
theorem own_ct {f : Nat → Int32} (hB : BInv f) (hO : Own f) (R : Nat → Bool) : fb_ct (fun s => R s && decide (¬ f (320 + s) = nI 0)) 320 = bsum f R 8 := by
  rw [← ct_ex hB hO R (Nat.le_refl _)]
  refine fb_ct_cong (fun s hs => ?_)
  obtain ⟨o, h1, h2, h5, -⟩ := hO s hs
  have e : exB f 8 s = decide (¬ f (320 + s) = nI 0) := by
    rw [Bool.eq_iff_iff, exB_own h5 (Nat.le_refl _), decide_eq_true_iff, h2, nI_eq (by omega) (by decide)]
    omega
  rw [e]
theorem own_all {f : Nat → Int32} (hB : BInv f) (hO : Own f) : fb_ct (fun s => decide (¬ f (320 + s) = nI 0)) 320 = bsum f (fun _ => true) 8 := by
  rw [← own_ct hB hO]
  exact fb_ct_cong (fun s _ => by rw [Bool.true_and])
theorem own_kept {f : Nat → Int32} (hB : BInv f) (hO : Own f) (h3 : K3 f) : tot f (nI 3) = bsum f (fun s => decide (f s = nI 3)) 8 := by
  rw [← own_ct hB hO, tot_ct]
  refine fb_ct_cong (fun s hs => ?_)
  by_cases c : f s = nI 3
  · rw [decide_eq_true (h3 s hs c), Bool.and_true]
  · rw [decide_eq_false c, Bool.false_and]
theorem bsum_n {f : Nat → Int32} {R : Nat → Bool} {b : Nat} (h : isB f (nI b) = false) : bsum f R (b + 1) = bsum f R b := by
  unfold bsum
  rw [fb_sm_succ, if_neg (by rw [h]; decide)]
  rfl
theorem bsum_y {f : Nat → Int32} {R : Nat → Bool} {b p z : Nat} (h : isB f (nI b) = true) (hp : f (650 + 2 * b) = nI p) (hz : f (650 + 2 * b + 1) = nI z) (hok : okz z) (hpz : p + z ≤ 320) : bsum f R (b + 1) = bsum f R b + fb_ct (fun i => R (p + i)) z := by
  have hzl := okz_le hok
  have e1 : bp f b = p := by unfold bp; rw [hp, nI_clamp (by omega)]
  have e2 : bz f b = z := by unfold bz; rw [hz, nI_clamp (by omega)]
  unfold bsum
  rw [fb_sm_succ, if_pos h, e1, e2]
theorem ct_true (n : Nat) : fb_ct (fun _ => true) n = n := fb_ct_all.mpr (fun _ _ => rfl)
theorem bsum_le (f : Nat → Int32) (hB : BInv f) (hO : Own f) (R : Nat → Bool) {n : Nat} (hn : n ≤ 8) : bsum f R n ≤ 320 := by
  rw [← ct_ex hB hO R hn]
  exact fb_ct_le _ _
/-- a slot of a block -/
theorem own_in {f : Nat → Int32} (hO : Own f) {b p z s : Nat} (hb : b < 8) (hp : f (650 + 2 * b) = nI p) (hz : f (650 + 2 * b + 1) = nI z) (hok : okz z) (hpz : p + z ≤ 320) (h1 : p ≤ s) (h2 : s < p + z) : slA f (nI s) (nI 1) = nI b ∧ (f s = nI 1 ∨ f s = nI 3) := by
  obtain ⟨o, h3, h4, h5, h6⟩ := hO s (by omega)
  have ho : o = b + 1 := (h5 b hb).mpr (by rw [ib_of hp hz hok hpz]; exact decide_eq_true ⟨h1, h2⟩)
  subst ho
  refine ⟨?_, h6 (by omega)⟩
  rw [sl1 (by omega), h4, if_neg (by rw [nI_eq (by omega) (by decide)]; omega), pk_sub (by omega)]
  rfl
/-- whether a slot has an owner, by the answer -/
theorem own_no {f : Nat → Int32} (hO : Own f) {s : Nat} (hs : s < 320) : slA f (nI s) (nI 1) = -9 ↔ f (320 + s) = nI 0 := by
  obtain ⟨o, h3, h4, -, -⟩ := hO s hs
  rw [sl1 hs]
  by_cases c : f (320 + s) = nI 0
  · rw [if_pos c]
    exact ⟨fun _ => c, fun _ => rfl⟩
  · rw [if_neg c]
    refine ⟨fun q => ?_, fun q => absurd q c⟩
    rw [h4, nI_eq (by omega) (by decide)] at c
    rw [h4, pk_sub (by omega)] at q
    exact absurd q (ne9 (by omega))
/-- used and kept slots of a block are all of it -/
theorem blk_13 {f : Nat → Int32} {p z : Nat} : ∀ {n : Nat}, n ≤ z → (∀ s, p ≤ s → s < p + z → f s = nI 1 ∨ f s = nI 3) → fb_ct (fun i => decide (f (p + i) = nI 1)) n + fb_ct (fun i => decide (f (p + i) = nI 3)) n = n
  | 0, _, _ => rfl
  | n + 1, hn, h => by
    have h1 := blk_13 (n := n) (by omega) h
    rw [fb_ct_succ, fb_ct_succ]
    rcases h (p + n) (by omega) (by omega) with q | q
    · rw [q, if_pos (decide_eq_true rfl), if_neg (by decide)]; omega
    · rw [q, if_neg (by decide), if_pos (decide_eq_true rfl)]; omega
/-! behind a repair -/
theorem rp_slot {f : Nat → Int32} {j : Nat} (h : j < 640) : rpF f 10 j = f j := if_neg (by omega)
theorem rp_bit {f : Nat → Int32} {w : Nat} (h : w < 10) : rpF f 10 (640 + w) = rt (rpF f 10) w := by
  have e : rt (rpF f 10) w = rt f w := rt_cong (fun i hi => rp_slot (by omega))
  rw [e]
  unfold rpF
  rw [if_pos (by omega), show 640 + w - 640 = w by omega]
theorem rp_wr {f : Nat → Int32} {w : Nat} (h : w < 10) : wr (rpF f 10) w = false := by
  unfold wr
  exact decide_eq_false (fun q => q (rp_bit h))
theorem rp_a0 (f : Nat → Int32) : fb_ct (wr (rpF f 10)) 10 = 0 := fb_ct_zero.mpr (fun w hw => rp_wr hw)
theorem rp_a1 (f : Nat → Int32) : ls1 (wr (rpF f 10)) 10 0 = none := ls1_out (fun w _ hw => rp_wr (by omega))
theorem rp_67 (f : Nat → Int32) : biN (rpF f 10) 10 = fuN (rpF f 10) 10 := fb_ct_cong (fun w hw => by rw [rp_bit hw])
theorem rp_reach (f : Nat → Int32) : reach (rpF f 10) = tot (rpF f 10) (nI 0) + tot (rpF f 10) (nI 2) := by
  unfold reach tot
  rw [← fb_sm_add]
  exact fb_sm_cong (fun w hw => rc_rt (rp_bit hw))
/-! the history: behind a recorded action the state before it is the latest -/
theorem un_back {g now past : Nat → Int32} {k : Nat} (h : k ≤ 5) {j : Nat} (hj : j < 667) : now j = unN g (psh past k now) (kpK k) j := by
  unfold unN kpK
  by_cases c : k < 5
  · rw [if_pos c, if_neg (by omega), show k + 1 - 1 = k by omega, hsl_new c hj]
  · obtain rfl : k = 5 := by omega
    rw [if_neg c, if_neg (by omega), hsl_new5 hj]
