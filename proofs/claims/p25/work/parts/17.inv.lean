/-! what holds of a map at all times, and that every action keeps it -/
def Inv (f : Nat → Int32) : Prop := KInv f ∧ Bits f ∧ BInv f ∧ BZ f ∧ Own f
theorem Own_keep {f g : Nat → Int32} (hk : keepB f g) (ho : ∀ s, s < 320 → g (320 + s) = f (320 + s)) (hs : ∀ s, s < 320 → ¬ f (320 + s) = nI 0 → (f s = nI 1 ∨ f s = nI 3) → g s = nI 1 ∨ g s = nI 3) (h : Own f) : Own g := by
  intro s hs9
  obtain ⟨o, h1, h2, h3, h4⟩ := h s hs9
  refine ⟨o, h1, (ho s hs9).trans h2, fun b hb => by rw [ib_keep hk hb]; exact h3 b hb, fun h0 => hs s hs9 ?_ (h4 h0)⟩
  rw [h2, nI_eq (by omega) (by decide)]
  exact h0
theorem Inv_bec {f : Nat → Int32} {P : Nat → Bool} {v : Nat → Int32} (h : Inv f) (hv : ∀ j, j < 320 → P j = true → ∃ k, k < 4 ∧ v j = nI k) (hO : ∀ j, j < 320 → P j = true → f (320 + j) = nI 0 ∨ v j = nI 1 ∨ v j = nI 3) : Inv (bec f P v) := by
  obtain ⟨i1, i2, i3, i4, i5⟩ := h
  refine ⟨fun s hs => ?_, rt_bits _ _ _ i2, keepB.bec.inv i3, BZ_keep keepB.bec i4, Own_keep keepB.bec (fun s hs => bec_own (by omega) (by omega)) (fun s hs h0 h1 => ?_) i5⟩
  · rw [bec_slot hs]
    by_cases e : P s = true
    · rw [if_pos e]; exact hv s hs e
    · rw [if_neg e]; exact i1 s hs
  · rw [bec_slot hs]
    by_cases e : P s = true
    · rw [if_pos e]; exact (hO s hs e).resolve_left h0
    · rw [if_neg e]; exact h1
theorem Inv_upd {f : Nat → Int32} {j : Nat} {x : Int32} (h : Inv f) (hj : 666 ≤ j ∨ (640 ≤ j ∧ j < 650 ∧ (x = nI 0 ∨ x = nI 1))) : Inv (upd f j x) := by
  obtain ⟨i1, i2, i3, i4, i5⟩ := h
  have hk : keepB f (upd f j x) := keepB.upd (by omega)
  have e : ∀ s, s < 640 → upd f j x s = f s := fun s hs => upd_n _ _ (by omega)
  refine ⟨fun s hs => by rw [e s (by omega)]; exact i1 s hs, fun w hw => ?_, hk.inv i3, BZ_keep hk i4, Own_keep hk (fun s hs => e _ (by omega)) (fun s hs _ h1 => by rw [e s (by omega)]; exact h1) i5⟩
  by_cases q : 640 + w = j
  · rw [q, upd_s]
    exact (hj.resolve_left (by omega)).2.2
  · rw [upd_n _ _ q]
    exact i2 w hw
theorem own_free {f : Nat → Int32} (h : Inv f) {s : Nat} (hs : s < 320) (h0 : ¬ f s = nI 1) (h3 : ¬ f s = nI 3) : f (320 + s) = nI 0 := by
  obtain ⟨o, h1, h2, -, h4⟩ := h.2.2.2.2 s hs
  rcases Nat.eq_zero_or_pos o with q | q
  · rw [h2, q]
  · exact ((h4 (by omega)).elim h0 h3).elim
theorem Inv_bc1 {f : Nat → Int32} {s : Nat} (h : Inv f) (hs : s < 320) : Inv (bc1 f s (nI 1)) := by
  rw [bc1_bec hs]
  exact Inv_bec h (fun _ _ _ => ⟨1, by decide, rfl⟩) (fun _ _ _ => Or.inr (Or.inl rfl))
theorem Inv_gt : ∀ {n w : Nat} {f : Nat → Int32}, w + n ≤ 10 → Inv f → Inv (gt n w f).2
  | 0, _, _, _, h => h
  | n + 1, w, f, hw, h => by
    have hl : Inv (lkP f) := Inv_upd h (Or.inl (Nat.le_refl _))
    rw [gt]
    by_cases c : f (640 + w) = nI 0
    · rw [if_pos c]
      cases ho : fi (lkP f) w with
      | none => exact Inv_gt (by omega) (Inv_upd hl (Or.inr ⟨by omega, by omega, Or.inr rfl⟩))
      | some s =>
        have := fi_lt ho
        exact Inv_bc1 hl (by omega)
    · rw [if_neg c]
      exact Inv_gt (by omega) h
theorem clP_2 {f : Nat → Int32} {n w sl j : Nat} (h : clP f n w sl j = true) : f j = nI 2 := by
  unfold clP at h
  rw [Bool.or_eq_true, Bool.and_eq_true, Bool.and_eq_true] at h
  rcases h with h | h
  · exact of_decide_eq_true h.2
  · rw [Bool.and_eq_true] at h; exact of_decide_eq_true h.2
theorem Inv_clF {f : Nat → Int32} {n : Nat} (h : Inv f) : Inv (clF f n) := Inv_bec h (fun _ _ _ => ⟨0, by decide, rfl⟩) (fun j hj e => Or.inl (own_free h hj (by rw [clP_2 e]; decide) (by rw [clP_2 e]; decide)))
theorem Inv_tk {f : Nat → Int32} (h : Inv f) : Inv (tk f).2 := by
  have h0 : Inv (gt 10 0 f).2 := Inv_gt (by omega) h
  cases h1 : (gt 10 0 f).1 with
  | some s => rw [tk_1 h1]; exact h0
  | none =>
    by_cases h2 : 0 < clN (gt 10 0 f).2 10
    · rw [tk_2 h1 h2]; exact Inv_gt (by omega) (Inv_clF h0)
    · rw [tk_3 h1 h2]; exact Inv_clF h0
theorem Inv_tmR : ∀ {j : Nat} {a : Int32} {g : Nat → Int32}, Inv g → Inv (tmR j a g).2
  | 0, _, _, h => h
  | j + 1, a, g, h => by
    rw [tmR]
    by_cases q : a < 0
    · rw [if_pos q]; exact h
    · rw [if_neg q]; exact Inv_tmR (Inv_tk h)
theorem Inv_tm {f : Nat → Int32} {v : Int32} (h : Inv f) : Inv (tmA f v).2 := by
  unfold tmA
  split
  · exact Inv_tmR h
  · exact h
theorem Inv_tr {f : Nat → Int32} {v : Int32} (h : Inv f) : Inv (trA f v).2 := by
  unfold trA
  split
  · split
    · exact Inv_bec (Inv_upd h (Or.inl (Nat.le_refl _))) (fun _ _ _ => ⟨1, by decide, rfl⟩) (fun _ _ _ => Or.inr (Or.inl rfl))
    · exact h
  · exact h
theorem Inv_gb {f : Nat → Int32} {a b : Int32} (h : Inv f) : Inv (gbA f a b).2 := by
  unfold gbA
  split
  · refine Inv_bec h (fun j hj e => ?_) (fun j hj e => ?_)
    · unfold gbv
      split
      · exact ⟨3, by decide, rfl⟩
      · exact ⟨2, by decide, rfl⟩
    · obtain ⟨o, h1, h2, -, -⟩ := h.2.2.2.2 j hj
      unfold gbv
      by_cases q : 0 < f (320 + j)
      · rw [if_pos q]; exact Or.inr (Or.inr rfl)
      · left
        rcases Nat.eq_zero_or_pos o with z | z
        · rw [h2, z]
        · exact absurd (by rw [h2]; exact nI_lt (a := 0) (by omega) (by omega)) q
  · exact h
theorem Inv_cl {f : Nat → Int32} {v : Int32} (h : Inv f) : Inv (clA f v).2 := by
  unfold clA
  split
  · exact Inv_clF h
  · exact h
theorem Inv_ti {f : Nat → Int32} {v : Int32} (h : Inv f) : Inv (tiA f v).2 := by
  cases hs : isB f v with
  | false => rw [tiA_n hs]; exact h
  | true =>
    obtain ⟨k, hk, rfl, h0⟩ := isB_t hs
    obtain ⟨p, z, hp, hz, hok, hmod, hpz⟩ := h.2.2.1 k (by omega) h0
    rw [tiA_s hk hs hp hz hpz]
    cases hq : kp f p z with
    | none => exact h
    | some s =>
      obtain ⟨-, h2, -, -⟩ := ls1_some hq
      exact Inv_bc1 h (by omega)
theorem Inv_dm {f : Nat → Int32} {v : Int32} (h : Inv f) : Inv (dmA f v).2 := by
  cases hs : inB v (nI 0) (nI 9) with
  | false => rw [dmA_n hs]; exact h
  | true =>
    obtain ⟨w, -, hw, rfl⟩ := inB_nat (by decide) (by decide) hs
    rw [dmA_s hw]
    refine Inv_upd h (Or.inr ⟨by omega, by omega, ?_⟩)
    rw [one_sub (h.2.1 w (by omega))]
    split
    · exact Or.inl rfl
    · exact Or.inr rfl
theorem Inv_rp {f : Nat → Int32} (h : Inv f) : Inv (rpA f).2 := by
  obtain ⟨i1, i2, i3, i4, i5⟩ := h
  have e : ∀ s, s < 640 → (rpA f).2 s = f s := fun s hs => if_neg (by omega)
  refine ⟨fun s hs => by rw [e s (by omega)]; exact i1 s hs, fun w hw => ?_, keepB_rp.inv i3, BZ_keep keepB_rp i4, Own_keep keepB_rp (fun s hs => e _ (by omega)) (fun s hs _ h1 => by rw [e s (by omega)]; exact h1) i5⟩
  show rpF f 10 (640 + w) = nI 0 ∨ rpF f 10 (640 + w) = nI 1
  unfold rpF
  rw [if_pos (by omega)]
  exact rt_01 _ _
theorem ib_of {f : Nat → Int32} {b p z s : Nat} (hp : f (650 + 2 * b) = nI p) (hz : f (650 + 2 * b + 1) = nI z) (h : okz z) (hpz : p + z ≤ 320) : ibB f b s = decide (p ≤ s ∧ s < p + z) := by
  have := okz_le h
  unfold ibB bp bz
  rw [hz, hp, nI_clamp (by omega), nI_clamp (by omega), show decide (0 < nI z) = true from decide_eq_true (nI_lt (a := 0) (by omega) (by omega)), Bool.true_and, Bool.eq_iff_iff, Bool.and_eq_true, decide_eq_true_iff, decide_eq_true_iff, decide_eq_true_iff]
theorem Inv_rs {f : Nat → Int32} {v : Int32} (h : Inv f) : Inv (rsA f v).2 := by
  have hB := BInv_rs (v := v) h.2.2.1
  cases hs : szB v with
  | false => rw [rsA_n hs]; exact h
  | true =>
    obtain ⟨z, rfl, hz⟩ := szB_t hs
    cases hu : ub f with
    | none => rw [rsA_0 hz (Or.inl hu)]; exact h
    | some b =>
      cases hp : pl f z with
      | none => rw [rsA_0 hz (Or.inr hp)]; exact h
      | some p =>
        rw [rsA_s hz hu hp] at hB ⊢
        show Inv (rsF (blk f b p z) b p z)
        have hB : BInv (rsF (blk f b p z) b p z) := hB
        obtain ⟨h1, h2, hfr⟩ := pl_ok hz hp
        obtain ⟨-, hb, hb0, -⟩ := ls1_some hu
        have hzl := okz_le hz
        obtain ⟨i1, i2, i3, i4, i5⟩ := h
        have eB : ∀ j, 650 ≤ j → (rsF (blk f b p z) b p z) j = blk f b p z j := fun j hj => by
          unfold rsF
          rw [bec_own (by omega) (by omega)]
          exact if_neg (by omega)
        have eb : ∀ k, k < 8 → k ≠ b → ∀ j, (j = 650 + 2 * k ∨ j = 650 + 2 * k + 1) → (rsF (blk f b p z) b p z) j = f j := fun k hk e j hj => by
          rw [eB j (by omega)]
          unfold blk
          rw [upd_n _ _ (by omega), upd_n _ _ (by omega)]
        have e1 : (rsF (blk f b p z) b p z) (650 + 2 * b) = nI p := by
          rw [eB _ (by omega)]
          unfold blk
          rw [upd_n _ _ (by omega), upd_s]
        have e2 : (rsF (blk f b p z) b p z) (650 + 2 * b + 1) = nI z := by
          rw [eB _ (by omega)]
          unfold blk
          rw [upd_s]
        have eO : ∀ s, s < 320 → (rsF (blk f b p z) b p z) (320 + s) = if p ≤ s ∧ s < p + z then nI (b + 1) else f (320 + s) := fun s hs => by
          unfold rsF
          rw [bec_own (by omega) (by omega)]
          unfold ow
          by_cases c : p ≤ s ∧ s < p + z
          · rw [if_pos c, if_pos (by omega)]
          · rw [if_neg c, if_neg (by omega)]
            unfold blk
            rw [upd_n _ _ (by omega), upd_n _ _ (by omega)]
        have eS : ∀ s, s < 320 → (rsF (blk f b p z) b p z) s = if p ≤ s ∧ s < p + z then nI 3 else f s := fun s hs => by
          unfold rsF
          rw [bec_slot hs]
          by_cases c : p ≤ s ∧ s < p + z
          · rw [if_pos c, if_pos (rg_iff.mpr c)]
          · rw [if_neg c, if_neg (fun q => c (rg_iff.mp q))]
            exact rs_free hs
        refine ⟨fun s hs => ?_, ?_, hB, fun k hk => ?_, fun s hs => ?_⟩
        · rw [eS s hs]
          split
          · exact ⟨3, by decide, rfl⟩
          · exact i1 s hs
        · refine rt_bits _ _ _ (fun w hw => ?_)
          have : ow (blk f b p z) p z (nI (b + 1)) (640 + w) = f (640 + w) := by
            unfold ow
            rw [if_neg (by omega)]
            unfold blk
            rw [upd_n _ _ (by omega), upd_n _ _ (by omega)]
          rw [this]
          exact i2 w hw
        · by_cases q : k = b
          · rw [q, e2]
            exact Or.inr (nI_lt (a := 0) (by omega) (by omega))
          · rw [eb k hk q _ (Or.inr rfl)]
            exact i4 k hk
        · obtain ⟨o, h3, h4, h5, h6⟩ := i5 s hs
          have hib : ∀ k, k < 8 → k ≠ b → ibB (rsF (blk f b p z) b p z) k s = ibB f k s := fun k hk q => by
            unfold ibB bp bz
            rw [eb k hk q _ (Or.inl rfl), eb k hk q _ (Or.inr rfl)]
          have hbb : ibB (rsF (blk f b p z) b p z) b s = decide (p ≤ s ∧ s < p + z) := ib_of e1 e2 hz h1
          by_cases c : p ≤ s ∧ s < p + z
          · have ho : o = 0 := by
              rcases Nat.eq_zero_or_pos o with q | q
              · exact q
              · have := h6 (by omega)
                rw [hfr s c.1 c.2] at this
                rcases this with t | t <;> exact absurd t (by decide)
            refine ⟨b + 1, by omega, by rw [eO s hs, if_pos c], fun k hk => ?_, fun _ => Or.inr (by rw [eS s hs, if_pos c])⟩
            by_cases q : k = b
            · rw [q, hbb, decide_eq_true c]
              simp
            · rw [hib k hk q, ← h5 k hk]
              omega
          · refine ⟨o, h3, by rw [eO s hs, if_neg c]; exact h4, fun k hk => ?_, fun h0 => by rw [eS s hs, if_neg c]; exact h6 h0⟩
            by_cases q : k = b
            · rw [q, hbb, decide_eq_false c]
              constructor
              · intro e
                have := (h5 b (by omega)).mp e
                unfold ibB at this
                rw [Bool.and_eq_true, Bool.and_eq_true] at this
                exact absurd (of_decide_eq_true this.1.1) (of_decide_eq_true hb0)
              · intro e; cases e
            · rw [hib k hk q]
              exact h5 k hk
theorem Inv_gu {f : Nat → Int32} {v : Int32} (h : Inv f) : Inv (guA f v).2 := by
  cases hs : isB f v with
  | false => rw [guA_n hs]; exact h
  | true =>
    obtain ⟨k, hk, rfl, h0⟩ := isB_t hs
    obtain ⟨p, z, hp, hz, hok, hmod, hpz⟩ := h.2.2.1 k (by omega) h0
    rw [guA_s hk hs hp hz hpz]
    show Inv (upd (upd (guF f p z) (650 + 2 * k) (nI 0)) (650 + 2 * k + 1) (nI 0))
    obtain ⟨i1, i2, i3, i4, i5⟩ := h
    have hu : ∀ j, (j < 650 ∨ 666 ≤ j) → upd (upd (guF f p z) (650 + 2 * k) (nI 0)) (650 + 2 * k + 1) (nI 0) j = guF f p z j := fun j hj => by rw [upd_n _ _ (by omega), upd_n _ _ (by omega)]
    have hB : ∀ j, 650 ≤ j → guF f p z j = f j := fun j hj => gu_blk rfl hpz hj
    have e2 : upd (upd (guF f p z) (650 + 2 * k) (nI 0)) (650 + 2 * k + 1) (nI 0) (650 + 2 * k + 1) = nI 0 := upd_s _ _ _
    have eb : ∀ b, b < 8 → b ≠ k → ∀ j, (j = 650 + 2 * b ∨ j = 650 + 2 * b + 1) → upd (upd (guF f p z) (650 + 2 * k) (nI 0)) (650 + 2 * k + 1) (nI 0) j = f j := fun b hb q j hj => by rw [upd_n _ _ (by omega), upd_n _ _ (by omega), hB j (by omega)]
    have eS : ∀ s, s < 320 → guF f p z s = if (p ≤ s ∧ s < p + z) ∧ f s = nI 3 then nI 0 else f s := fun s hs => by
      unfold guF
      rw [bec_slot hs]
      by_cases c : (p ≤ s ∧ s < p + z) ∧ f s = nI 3
      · rw [if_pos c, if_pos (by rw [Bool.and_eq_true, rg_iff, decide_eq_true_iff]; exact c)]
      · rw [if_neg c, if_neg (by rw [Bool.and_eq_true, rg_iff, decide_eq_true_iff]; exact c), ow_slot hs]
    have eO : ∀ s, s < 320 → guF f p z (320 + s) = if p ≤ s ∧ s < p + z then nI 0 else f (320 + s) := fun s hs => by
      unfold guF
      rw [bec_own (by omega) (by omega)]
      unfold ow
      by_cases c : p ≤ s ∧ s < p + z
      · rw [if_pos c, if_pos (by omega)]
      · rw [if_neg c, if_neg (by omega)]
    refine ⟨fun s hs => ?_, fun w hw => ?_, fun b hb q => ?_, fun b hb => ?_, fun s hs => ?_⟩
    · rw [hu s (by omega), eS s hs]
      split
      · exact ⟨0, by decide, rfl⟩
      · exact i1 s hs
    · rw [hu _ (by omega)]
      refine rt_bits _ _ _ (fun w hw => ?_) w hw
      rw [show ow f p z (nI 0) (640 + w) = f (640 + w) from if_neg (by omega)]
      exact i2 w hw
    · by_cases c : b = k
      · rw [c, e2] at q
        exact absurd q (by decide)
      · rw [eb b hb c _ (Or.inr rfl)] at q ⊢
        rw [eb b hb c _ (Or.inl rfl)]
        exact i3 b hb q
    · by_cases c : b = k
      · rw [c, e2]; exact Or.inl rfl
      · rw [eb b hb c _ (Or.inr rfl)]
        exact i4 b hb
    · obtain ⟨o, h3, h4, h5, h6⟩ := i5 s hs
      rw [hu _ (by omega), hu s (by omega), eO s hs]
      have hib : ∀ b, b < 8 → b ≠ k → ibB (upd (upd (guF f p z) (650 + 2 * k) (nI 0)) (650 + 2 * k + 1) (nI 0)) b s = ibB f b s := fun b hb q => by
        unfold ibB bp bz
        rw [eb b hb q _ (Or.inl rfl), eb b hb q _ (Or.inr rfl)]
      have hkk : ibB (upd (upd (guF f p z) (650 + 2 * k) (nI 0)) (650 + 2 * k + 1) (nI 0)) k s = false := by
        unfold ibB
        rw [e2]
        rfl
      have hko : ibB f k s = decide (p ≤ s ∧ s < p + z) := ib_of hp hz hok hpz
      by_cases c : p ≤ s ∧ s < p + z
      · have ho : o = k + 1 := (h5 k (by omega)).mpr (by rw [hko]; exact decide_eq_true c)
        refine ⟨0, by decide, by rw [if_pos c], fun b hb => ?_, fun q => absurd rfl q⟩
        by_cases q : b = k
        · rw [q, hkk]
          simp
        · rw [hib b hb q, ← h5 b hb]
          omega
      · refine ⟨o, h3, by rw [if_neg c]; exact h4, fun b hb => ?_, fun q => by rw [eS s hs, if_neg (fun t => c t.1)]; exact h6 q⟩
        by_cases q : b = k
        · rw [q, hkk]
          constructor
          · intro e
            have := (h5 k (by omega)).mp e
            rw [hko] at this
            exact absurd (of_decide_eq_true this) c
          · intro e; cases e
        · rw [hib b hb q]
          exact h5 b hb
theorem Inv_do {f : Nat → Int32} {k : Nat} {x y : Int32} (h : Inv f) : Inv (doA f k x y).2 := by
  unfold doA
  split
  · exact Inv_tm h
  · split
    · exact Inv_gb h
    · split
      · exact Inv_cl h
      · split
        · exact Inv_rs h
        · split
          · exact Inv_ti h
          · split
            · exact Inv_dm h
            · exact Inv_rp h
theorem Inv_0 : Inv (fun _ => nI 0) := by
  refine ⟨fun s _ => ⟨0, by decide, rfl⟩, fun _ _ => Or.inl rfl, fun k _ h => absurd (show (0 : Int32) < nI 0 from h) (by decide), fun _ _ => Or.inl rfl, fun s hs => ⟨0, by decide, rfl, fun b hb => ?_, fun q => absurd rfl q⟩⟩
  unfold ibB
  rw [show decide (0 < (fun _ => nI 0 : Nat → Int32) (650 + 2 * b + 1)) = false from rfl]
  simp
