/-! what the law's loops stand on -/
theorem neg1 {x : Int32} (h : x = -1) : x < 0 := by rw [h]; decide
theorem raA_n {f : Nat → Int32} {v : Int32} (h : inB v (nI 1) (nI 64) = false) : raA f v = -1 := by unfold raA; rw [h]; rfl
theorem raA_m {f : Nat → Int32} {m : Nat} (h1 : 1 ≤ m) (h2 : m ≤ 64) : raA f (nI m) = oI (rn f m 320 0 0) := by
  unfold raA
  rw [inB_of (by omega) h1 h2, nI_clamp (by omega)]
  rfl
theorem pfA_n {f : Nat → Int32} {v : Int32} (h : szB v = false) : pfA f v = -1 := by unfold pfA; rw [h]; rfl
theorem pfA_z {f : Nat → Int32} {z : Nat} (h : okz z) : pfA f (nI z) = oI (pl f z) := by
  unfold pfA
  have e : szB (nI z) = true := by rcases h with rfl | rfl | rfl | rfl <;> decide
  have := okz_le h
  rw [e, nI_clamp (by omega)]
  rfl
theorem blN_y {f : Nat → Int32} {b : Nat} (h : isB f (nI b) = true) : blN f (b + 1) = blN f b + 1 := by
  unfold blN
  rw [fb_ct_succ, if_pos h]
theorem blN_n {f : Nat → Int32} {b : Nat} (h : isB f (nI b) = false) : blN f (b + 1) = blN f b := by
  unfold blN
  rw [fb_ct_succ, if_neg (by rw [h]; decide)]
  rfl
theorem sz_of {j : Nat} (h : j < 4) : ∃ z, okz z ∧ nI 4 <<< (nI j &&& 31) = nI z := by
  rcases (show j = 0 ∨ j = 1 ∨ j = 2 ∨ j = 3 by omega) with rfl | rfl | rfl | rfl
  · exact ⟨4, Or.inl rfl, by decide⟩
  · exact ⟨8, Or.inr (Or.inl rfl), by decide⟩
  · exact ⟨16, Or.inr (Or.inr (Or.inl rfl)), by decide⟩
  · exact ⟨32, Or.inr (Or.inr (Or.inr rfl)), by decide⟩
/-- z times n, less z -/
def dz (z n : Nat) : Int32 := nI (z * n) - nI z
theorem dz_0 {z : Nat} (h : okz z) : nI (320 - z) = dz z (320 / z) := by rcases h with rfl | rfl | rfl | rfl <;> decide
theorem dz_s {z q : Nat} : dz z (q + 1) = nI (z * q) := by
  unfold dz
  rw [pk_sub (Nat.le_mul_of_pos_right z (Nat.succ_pos q)), Nat.mul_succ, Nat.add_sub_cancel]
theorem dz_in {z q : Nat} (h : okz z) (hq : q + 1 ≤ 320 / z) : z * q + z ≤ 320 := by rcases h with rfl | rfl | rfl | rfl <;> omega
theorem dz_t {z n : Nat} (h : okz z) (hn : n ≤ 320 / z) (c : dz z n < 0) : n = 0 := by
  cases n with
  | zero => rfl
  | succ q =>
    rw [dz_s] at c
    have := dz_in h hn
    exact absurd c (nI_pos (by omega))
theorem dz_f {z n : Nat} (h : okz z) (c : ¬ dz z n < 0) : ∃ q, n = q + 1 := by
  cases n with
  | zero => exact absurd (by rcases h with rfl | rfl | rfl | rfl <;> decide) c
  | succ q => exact ⟨q, rfl⟩
theorem plq_y {f : Nat → Int32} {z q : Nat} (h : ∀ i, i < z → fr f (z * q + i) = true) : plq f z q = true := decide_eq_true (fb_ct_all.mpr h)
theorem plq_n {f : Nat → Int32} {z q i : Nat} (hi : i < z) (h : fr f (z * q + i) = false) : plq f z q = false := decide_eq_false (fun e => by
  have := fb_ct_all.mp e i hi
  rw [h] at this
  cases this)
theorem kpK_5 {k : Nat} (h : k ≤ 5) : 1 ≤ kpK k ∧ kpK k ≤ 5 := by unfold kpK; split <;> omega
theorem unA_k {k : Nat} (h : k ≤ 5) : unA (kpK k) = nI (kpK k - 1) := by
  have := kpK_5 h
  unfold unA
  rw [if_neg (by omega)]
theorem looks_q {x y z : Int32} (h : x = y + z) : x - y = z := by rw [h, Int32.add_comm, Int32.add_sub_cancel]
theorem ty_pos {t : Nat → Int32} {tl m : Nat} (h : TyOk t tl m) : 0 < tl := by
  obtain ⟨-, -, a2, h1, -⟩ := h
  omega
theorem tm_all {f : Nat → Int32} (h1 : 1 ≤ reach f) (h2 : reach f ≤ 320) : ¬ (tmA f (nI (reach f))).1 < 0 ∧ reach (tmA f (nI (reach f))).2 = 0 := by
  rw [tmA_m h1 h2]
  exact tmR_all (by decide) rfl
theorem tm_more {f : Nat → Int32} (h2 : reach f ≤ 319) : (tmA f (nI (reach f + 1))).1 < 0 := by
  rw [tmA_m (by omega) (by omega)]
  exact tmR_more (by decide) rfl
/-- the three ways of taking a slot -/
theorem tk3 (f : Nat → Int32) : (tk f).1 = none ∨ (∃ s q, (tk f).1 = some s ∧ 1 ≤ q ∧ q ≤ 20 ∧ (tk f).2 666 = f 666 + nI q ∧ s < 320 ∧ (tk f).2 s = nI 1 ∧ reach (tk f).2 + 1 = reach f ∧ tot (tk f).2 (nI 2) = tot f (nI 2) ∧ f s = nI 0)
    ∨ (∃ s q, (tk f).1 = some s ∧ 1 ≤ q ∧ q ≤ 20 ∧ (tk f).2 666 = f 666 + nI q ∧ s < 320 ∧ (tk f).2 s = nI 1 ∧ reach (tk f).2 + 1 = reach f ∧ tot (tk f).2 (nI 2) = 0 ∧ 0 < tot f (nI 2)) := by
  cases h : (tk f).1 with
  | none => exact Or.inl rfl
  | some s =>
    right
    obtain ⟨⟨q, h1, h2, h3⟩, h4, h5, h6⟩ := tk_get h
    have h7 := tk_some h
    rcases h6 with ⟨h8, h9⟩ | ⟨h8, h9⟩
    · exact Or.inl ⟨s, q, rfl, h1, h2, h3, h4, h5, h7, h8, h9⟩
    · exact Or.inr ⟨s, q, rfl, h1, h2, h3, h4, h5, h7, h8, h9⟩
theorem tkA_s {f : Nat → Int32} {s : Nat} (h : (tk f).1 = some s) : (tkA f).1 = nI s := by unfold tkA; rw [h]; rfl
theorem tkA_0 {f : Nat → Int32} (h : (tk f).1 = none) : (tkA f).1 = -3 := by unfold tkA; rw [h]; rfl
