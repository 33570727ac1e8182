/-! the class's Slots: blocks, ranges, the summary -/
def bp (f : Nat → Int32) (b : Nat) : Nat := (f (650 + 2 * b)).toNatClampNeg
def bz (f : Nat → Int32) (b : Nat) : Nat := (f (650 + 2 * b + 1)).toNatClampNeg
/-- slot s lies in block b -/
def ibB (f : Nat → Int32) (b s : Nat) : Bool := decide (0 < f (650 + 2 * b + 1)) && decide (bp f b ≤ s) && decide (s < bp f b + bz f b)
/-- owners are as the blocks say, and what is owned is used or kept -/
def Own (f : Nat → Int32) : Prop := ∀ s, s < 320 → ∃ o, o ≤ 8 ∧ f (320 + s) = nI o ∧ (∀ b, b < 8 → (o = b + 1 ↔ ibB f b s = true)) ∧ (¬ o = 0 → f s = nI 1 ∨ f s = nI 3)
theorem blk_nat {f : Nat → Int32} {V : Nat → Nat → Int32} (R : RepZ f V) (hB : BInv f) (hz : BZ f) {b : Nat} (hb : b < 8) : ∃ p z, p < 320 ∧ z ≤ 32 ∧ V 4 b = nI p ∧ V 5 b = nI z ∧ f (650 + 2 * b + 1) = nI z ∧ (z = 0 ∨ (okz z ∧ f (650 + 2 * b) = nI p ∧ p % z = 0 ∧ p + z ≤ 320)) := by
  obtain ⟨h1, ⟨p, hp, h2⟩, h3⟩ := R b hb
  rcases hz b hb with h0 | h0
  · exact ⟨p, 0, hp, by decide, h2, h1.trans h0, h0, Or.inl rfl⟩
  · obtain ⟨p', z, g1, g2, g3, g4, g5⟩ := hB b hb h0
    have hzl := okz_le g3
    have h5 : V 5 b = nI z := h1.trans g2
    have h4 : V 4 b = nI p' := (h3 (by rw [h5, nI_eq (by omega) (by decide)]; omega)).trans g1
    exact ⟨p', z, by omega, hzl.2, h4, h5, g2, Or.inr ⟨g3, g1, g4, g5⟩⟩
theorem ib_pz {f : Nat → Int32} {b p z s : Nat} (h : f (650 + 2 * b + 1) = nI z) (hz : z ≤ 32) (h2 : z = 0 ∨ (okz z ∧ f (650 + 2 * b) = nI p ∧ p % z = 0 ∧ p + z ≤ 320)) : ibB f b s = decide (p ≤ s ∧ s < p + z) := by
  unfold ibB bp bz
  rw [h, nI_clamp (by omega)]
  rcases h2 with rfl | ⟨h3, h4, -, h5⟩
  · rw [decide_eq_false (p := p ≤ s ∧ s < p + 0) (by omega)]
    rfl
  · have := okz_le h3
    rw [h4, nI_clamp (by omega), show decide (0 < nI z) = true from decide_eq_true (nI_lt (a := 0) (by omega) (by omega)), Bool.true_and, Bool.eq_iff_iff, Bool.and_eq_true, decide_eq_true_iff, decide_eq_true_iff, decide_eq_true_iff]
/-- a block lies in one word -/
theorem blk_word {p z s : Nat} (hz : okz z) (hm : p % z = 0) (h1 : p ≤ s) (h2 : s < p + z) : s / 32 = p / 32 := by rcases hz with rfl | rfl | rfl | rfl <;> omega
theorem blk_end {p z : Nat} (hz : okz z) (hm : p % z = 0) : p + z ≤ 32 * (p / 32) + 32 := by rcases hz with rfl | rfl | rfl | rfl <;> omega
def ob (f : Nat → Int32) : Nat → Nat → Bool
  | 0, _ => false
  | k + 1, s => ob f k s || ibB f k s
theorem ob_iff {f : Nat → Int32} {s : Nat} : ∀ {k : Nat}, ob f k s = true ↔ ∃ b, b < k ∧ ibB f b s = true
  | 0 => by
    constructor
    · intro h; cases h
    · rintro ⟨b, h, -⟩; exact absurd h (Nat.not_lt_zero b)
  | k + 1 => by
    rw [ob, Bool.or_eq_true, ob_iff]
    constructor
    · rintro (⟨b, h1, h2⟩ | h)
      · exact ⟨b, by omega, h2⟩
      · exact ⟨k, by omega, h⟩
    · rintro ⟨b, h1, h2⟩
      rcases Nat.lt_or_ge b k with q | q
      · exact Or.inl ⟨b, q, h2⟩
      · exact Or.inr (by rw [show k = b by omega]; exact h2)
theorem ob_own {f : Nat → Int32} (h : Own f) {s : Nat} (hs : s < 320) : ob f 8 s = true ↔ 0 < f (320 + s) := by
  obtain ⟨o, h1, h2, h3, -⟩ := h s hs
  rw [ob_iff, h2]
  constructor
  · rintro ⟨b, hb, hi⟩
    have := (h3 b hb).mpr hi
    exact nI_lt (a := 0) (by omega) (by omega)
  · intro h0
    have h4 : 0 < o := by
      rcases Nat.eq_zero_or_pos o with q | q
      · rw [q] at h0; exact absurd h0 (by decide)
      · exact q
    exact ⟨o - 1, by omega, (h3 (o - 1) (by omega)).mp (by omega)⟩
theorem ib_keep {f g : Nat → Int32} (h : keepB f g) {b s : Nat} (hb : b < 8) : ibB g b s = ibB f b s := by
  unfold ibB bp bz
  rw [h _ (by omega) (by omega), h _ (by omega) (by omega)]
theorem BZ_keep {f g : Nat → Int32} (h : keepB f g) (hz : BZ f) : BZ g := fun b hb => by
  rw [h _ (by omega) (by omega)]
  exact hz b hb
theorem ob_keep {f g : Nat → Int32} (h : keepB f g) {s : Nat} : ∀ {k : Nat}, k ≤ 8 → ob g k s = ob f k s
  | 0, _ => rfl
  | k + 1, hk => by rw [ob, ob, ob_keep h (by omega), ib_keep h (by omega)]
/-- a count over all slots, word by word -/
theorem ct_words (p : Nat → Bool) : ∀ n, fb_ct p (32 * n) = fb_sm (fun w => fb_ct (fun i => p (32 * w + i)) 32) n
  | 0 => rfl
  | n + 1 => by rw [show 32 * (n + 1) = 32 * n + 32 by omega, fb_ct_split, ct_words p n, fb_sm_succ]
/-- a count in a window -/
theorem ct_win {q : Nat → Bool} {B p z n : Nat} (h1 : B ≤ p) (h2 : p + z ≤ B + n) : fb_ct (fun i => decide (p ≤ B + i ∧ B + i < p + z) && q (B + i)) n = fb_ct (fun i => q (p + i)) z := by
  obtain ⟨c, rfl⟩ := Nat.le.dest h1
  obtain ⟨d, hd⟩ : ∃ d, n = c + (z + d) := ⟨n - c - z, by omega⟩
  rw [hd, fb_ct_split, fb_ct_split]
  have e1 : fb_ct (fun i => decide (B + c ≤ B + i ∧ B + i < B + c + z) && q (B + i)) c = 0 := fb_ct_zero.mpr (fun i hi => by rw [decide_eq_false (by omega)]; rfl)
  have e2 : fb_ct (fun k => decide (B + c ≤ B + (c + (z + k)) ∧ B + (c + (z + k)) < B + c + z) && q (B + (c + (z + k)))) d = 0 := fb_ct_zero.mpr (fun i hi => by rw [decide_eq_false (by omega)]; rfl)
  have e3 : fb_ct (fun k => decide (B + c ≤ B + (c + k) ∧ B + (c + k) < B + c + z) && q (B + (c + k))) z = fb_ct (fun i => q (B + c + i)) z := fb_ct_cong (fun i hi => by rw [decide_eq_true (by omega), Nat.add_assoc]; rfl)
  rw [e1, e2, e3]
  omega
theorem pc_of {m : Int32} {P : Nat → Bool} (h : ∀ i, i < 32 → bt m i = P i) : pc m = fb_ct P 32 := fb_ct_cong h
theorem zero_of {m : Int32} {P : Nat → Bool} (h : ∀ i, i < 32 → bt m i = P i) : m = nI 0 ↔ ∀ i, i < 32 → P i = false := by
  constructor
  · intro e i hi
    rw [← h i hi, e]
    exact b_0 i
  · intro e
    refine b_ext (fun i hi => ?_)
    rw [h i hi, e i hi]
    exact (b_0 i).symm
theorem low_of {m : Int32} {P : Nat → Bool} {i : Nat} (h : ∀ i, i < 32 → bt m i = P i) (hi : i < 32) (h1 : P i = true) (h2 : ∀ j, j < i → P j = false) : lw m = i := low_pc hi (by rw [h i hi]; exact h1) (fun j hj => by rw [h j (by omega)]; exact h2 j hj)
/-- the words below w of a range given back -/
def gw (f : Nat → Int32) (a n w : Nat) : Nat → Int32 := bec f (fun j => decide (j / 32 < w) && gbP f a n j) (gbv f)
theorem gw_0 (f : Nat → Int32) (a n : Nat) : f = gw f a n 0 := (bec_none (fun j _ => by simp)).symm
theorem gw_10 (f : Nat → Int32) (a n : Nat) : gw f a n 10 = gbF f a n := bec_cong (fun j hj => by rw [decide_eq_true (by omega)]; rfl) (fun _ _ _ => rfl)
theorem gw_slot {f : Nat → Int32} {a n w j : Nat} (hj : j < 320) (h : w ≤ j / 32) : gw f a n w j = f j := bec_slot_n hj (by rw [decide_eq_false (by omega)]; rfl)
theorem gw_s {f : Nat → Int32} {a n w : Nat} {m1 m2 : Int32} (hw : w < 10) (h1 : ∀ i, i < 32 → bt m1 i = (gbP f a n (32 * w + i) && decide (¬ 0 < f (320 + (32 * w + i))))) (h2 : ∀ i, i < 32 → bt m2 i = (gbP f a n (32 * w + i) && decide (0 < f (320 + (32 * w + i))))) :
    bec (bec (gw f a n w) (mP w m1) (fun _ => nI 2)) (mP w m2) (fun _ => nI 3) = gw f a n (w + 1) := by
  have e1 : ∀ j, j < 320 → mP w m1 j = (decide (j / 32 = w) && gbP f a n j && decide (¬ 0 < f (320 + j))) := fun j hj => by
    unfold mP
    by_cases e : j / 32 = w
    · rw [h1 _ (by omega), show 32 * w + j % 32 = j by omega, decide_eq_true e]
      simp
    · rw [decide_eq_false e]; rfl
  have e2 : ∀ j, j < 320 → mP w m2 j = (decide (j / 32 = w) && gbP f a n j && decide (0 < f (320 + j))) := fun j hj => by
    unfold mP
    by_cases e : j / 32 = w
    · rw [h2 _ (by omega), show 32 * w + j % 32 = j by omega, decide_eq_true e]
      simp
    · rw [decide_eq_false e]; rfl
  unfold gw
  rw [bec_bec (v := gbv f) (w := gbv f) (fun j hj h => by
    rw [e1 j hj, Bool.and_eq_true, decide_eq_true_iff] at h
    exact if_neg h.2) (fun _ _ _ _ => rfl), bec_bec (w := gbv f) (fun j hj h => by
    rw [e2 j hj, Bool.and_eq_true, decide_eq_true_iff] at h
    exact if_pos h.2) (fun _ _ _ _ => rfl)]
  refine bec_cong (fun j hj => ?_) (fun _ _ _ => rfl)
  rw [e1 j hj, e2 j hj]
  by_cases c : 0 < f (320 + j)
  · by_cases e : j / 32 = w
    · simp [c, e]
    · by_cases e3 : j / 32 < w
      · simp [c, e, e3, show j / 32 < w + 1 by omega]
      · simp [c, e, e3, show ¬ j / 32 < w + 1 by omega]
  · by_cases e : j / 32 = w
    · simp [c, e]
    · by_cases e3 : j / 32 < w
      · simp [c, e, e3, show j / 32 < w + 1 by omega]
      · simp [c, e, e3, show ¬ j / 32 < w + 1 by omega]
theorem gb_count {f : Nat → Int32} {a n : Nat} (h : a + n ≤ 320) : fb_sm (fun w => fb_ct (fun i => gbP f a n (32 * w + i)) 32) 10 = gbN f a n := by
  rw [← ct_words (gbP f a n) 10]
  have := ct_win (q := fun j => decide (f j = nI 1)) (B := 0) (p := a) (z := n) (n := 320) (Nat.zero_le _) (by omega)
  unfold gbN
  rw [← this]
  refine fb_ct_cong (fun i hi => ?_)
  unfold gbP rg
  rw [Nat.zero_add, Bool.eq_iff_iff]
  simp only [Bool.and_eq_true, decide_eq_true_eq]
theorem gb_in {va vb : Int32} (h1 : ¬ va < 0) (h2 : ¬ nI 320 ≤ vb) (h3 : va ≤ vb) : ∃ a b, va = nI a ∧ vb = nI b ∧ a ≤ b ∧ b ≤ 319 := by
  obtain ⟨a, ha, rfl⟩ := nI_of h1
  rw [Int32.le_iff_toInt_le, nI_toInt (by decide)] at h2
  rw [Int32.le_iff_toInt_le, nI_toInt ha] at h3
  obtain ⟨b, hb, rfl⟩ := nI_of (x := vb) (by rw [Int32.lt_iff_toInt_lt, Int32.toInt_zero]; omega)
  rw [nI_toInt hb] at h2 h3
  exact ⟨a, b, rfl, rfl, by omega, by omega⟩
theorem all_and {x m : Int32} : x &&& m = m ↔ ∀ i, i < 32 → bt m i = true → bt x i = true := by
  constructor
  · intro h i hi hm
    have : bt (x &&& m) i = true := by rw [h]; exact hm
    rw [b_and, Bool.and_eq_true] at this
    exact this.1
  · intro h
    refine b_ext (fun i hi => ?_)
    rw [b_and]
    cases e : bt m i with
    | false => simp
    | true => rw [h i hi e]; rfl
theorem rep_pl {f : Nat → Int32} {V : Nat → Nat → Int32} (R : RepK f V) {p z q : Nat} {m : Int32} (hp : p = z * q) (hz : okz z) (h : p + z ≤ 320) (hm : ∀ i, i < 32 → bt m i = decide (p ≤ 32 * (p / 32) + i ∧ 32 * (p / 32) + i < p + z)) : V 0 (p / 32) &&& m = m ↔ plq f z q = true := by
  have he := blk_end hz (p := p) (by rw [hp]; exact Nat.mul_mod_right _ _)
  unfold plq
  rw [all_and, decide_eq_true_iff, fb_ct_all, ← hp]
  constructor
  · intro h1 i hi
    have h2 := h1 (p + i - 32 * (p / 32)) (by omega) (by rw [hm _ (by omega)]; exact decide_eq_true (by omega))
    rw [R 0 _ _ (by decide) (by omega) (by omega), show 32 * (p / 32) + (p + i - 32 * (p / 32)) = p + i by omega] at h2
    exact h2
  · intro h1 i hi h2
    rw [hm i hi, decide_eq_true_iff] at h2
    rw [R 0 _ _ (by decide) (by omega) hi]
    have h3 := h1 (32 * (p / 32) + i - p) (by omega)
    rw [show p + (32 * (p / 32) + i - p) = 32 * (p / 32) + i by omega] at h3
    exact h3
theorem RepS_own {f : Nat → Int32} {V : Nat → Nat → Int32} {p n : Nat} {x : Int32} (R : RepS f V) (h : p + n ≤ 320) : RepS (ow f p n x) V := by
  obtain ⟨rk, ⟨rb1, rb2⟩, rl, rz⟩ := R
  have e : ∀ j, (j < 320 ∨ 640 ≤ j) → ow f p n x j = f j := fun j hj => if_neg (by omega)
  refine ⟨fun k w i hk hw hi => ?_, ⟨fun w hw => ?_, rb2⟩, ?_, ?_⟩
  · rw [e _ (by omega)]; exact rk k w i hk hw hi
  · rw [e _ (by omega)]; exact rb1 w hw
  · rw [e _ (by omega)]; exact rl
  · exact RepZ_of rfl rfl (fun j h1 h2 => e j (by omega)) rz
theorem RepS_blk {f : Nat → Int32} {V V1 V2 : Nat → Nat → Int32} {b p z : Nat} (R : RepS f V) (hb : b < 8) (hp : p < 320) (h1 : V1 = vset V 4 (upd (V 4) b (nI p))) (h2 : V2 = vset V1 5 (upd (V1 5) b (nI z))) : RepS (blk f b p z) V2 := by
  obtain ⟨rk, ⟨rb1, rb2⟩, rl, rz⟩ := R
  have e : ∀ j, j < 650 ∨ 666 ≤ j → blk f b p z j = f j := fun j hj => by unfold blk; rw [upd_n _ _ (by omega), upd_n _ _ (by omega)]
  have e6 : V2 6 = V 6 := by rw [h2, vset_n _ _ (by decide), h1, vset_n _ _ (by decide)]
  have e4 : V2 4 = upd (V 4) b (nI p) := by rw [h2, vset_n _ _ (by decide), h1, vset_s]
  have e5 : V2 5 = upd (V 5) b (nI z) := by rw [h2, vset_s, h1, vset_n _ _ (by decide)]
  refine ⟨fun k w i hk hw hi => ?_, ⟨fun w hw => ?_, fun i hi => ?_⟩, ?_, fun k hk => ?_⟩
  · rw [h2, vset_n _ _ (by omega), h1, vset_n _ _ (by omega), e _ (by omega)]; exact rk k w i hk hw hi
  · rw [e6, e _ (by omega)]; exact rb1 w hw
  · rw [e6]; exact rb2 i hi
  · rw [e6, e _ (by omega)]; exact rl
  · rw [e4, e5]
    by_cases q : k = b
    · subst q
      rw [upd_s, upd_s]
      unfold blk
      rw [upd_s]
      exact ⟨rfl, ⟨p, hp, rfl⟩, fun _ => by rw [upd_n _ _ (by omega), upd_s]⟩
    · rw [upd_n _ _ q, upd_n _ _ q]
      unfold blk
      rw [upd_n _ _ (by omega), upd_n _ _ (by omega), upd_n _ _ (by omega), upd_n _ _ (by omega)]
      exact rz k hk
theorem RepS_gone {f : Nat → Int32} {V V1 : Nat → Nat → Int32} {b : Nat} (R : RepS f V) (hb : b < 8) (h1 : V1 = vset V 5 (upd (V 5) b (nI 0))) : RepS (upd (upd f (650 + 2 * b) (nI 0)) (650 + 2 * b + 1) (nI 0)) V1 := by
  obtain ⟨rk, ⟨rb1, rb2⟩, rl, rz⟩ := R
  have e : ∀ j, j < 650 ∨ 666 ≤ j → upd (upd f (650 + 2 * b) (nI 0)) (650 + 2 * b + 1) (nI 0) j = f j := fun j hj => by rw [upd_n _ _ (by omega), upd_n _ _ (by omega)]
  refine ⟨fun k w i hk hw hi => ?_, ⟨fun w hw => ?_, fun i hi => ?_⟩, ?_, fun k hk => ?_⟩
  · rw [h1, vset_n _ _ (by omega), e _ (by omega)]; exact rk k w i hk hw hi
  · rw [h1, vset_n _ _ (by decide), e _ (by omega)]; exact rb1 w hw
  · rw [h1, vset_n _ _ (by decide)]; exact rb2 i hi
  · rw [h1, vset_n _ _ (by decide), e _ (by omega)]; exact rl
  · rw [h1, vset_s, vset_n _ _ (by decide)]
    by_cases q : k = b
    · subst q
      rw [upd_s, upd_s]
      exact ⟨rfl, (rz k hk).2.1, fun q => absurd rfl q⟩
    · rw [upd_n _ _ q, upd_n _ _ (by omega), upd_n _ _ (by omega), upd_n _ _ (by omega), upd_n _ _ (by omega)]
      exact rz k hk
theorem mP_rg {w p z : Nat} {m : Int32} (hw : p / 32 = w) (he : p + z ≤ 32 * w + 32) (hm : ∀ i, i < 32 → bt m i = decide (p ≤ 32 * w + i ∧ 32 * w + i < p + z)) (j : Nat) : mP w m j = rg p z j := by
  unfold mP rg
  by_cases e : j / 32 = w
  · rw [hm _ (by omega), show 32 * w + j % 32 = j by omega, decide_eq_true e, Bool.true_and, Bool.eq_iff_iff, Bool.and_eq_true, decide_eq_true_iff, decide_eq_true_iff, decide_eq_true_iff]
  · rw [decide_eq_false e, Bool.false_and, Bool.eq_iff_iff, Bool.and_eq_true, decide_eq_true_iff, decide_eq_true_iff]
    constructor
    · intro h; cases h
    · intro h; omega
theorem kp_word {f : Nat → Int32} {p z w : Nat} (h1 : 32 * w ≤ p) (h2 : p + z ≤ 32 * w + 32) : (∀ s, kp f p z = some s → p ≤ s ∧ s < p + z ∧ f s = nI 3 ∧ (∀ j, j < s - 32 * w → (decide (f (32 * w + j) = nI 3) && decide (p ≤ 32 * w + j ∧ 32 * w + j < p + z)) = false)) ∧ (kp f p z = none → ∀ i, i < 32 → (decide (f (32 * w + i) = nI 3) && decide (p ≤ 32 * w + i ∧ 32 * w + i < p + z)) = false) := by
  constructor
  · intro s h
    obtain ⟨g1, g2, g3, g4⟩ := ls1_some h
    refine ⟨g1, g2, of_decide_eq_true g3, fun j hj => ?_⟩
    by_cases c : p ≤ 32 * w + j ∧ 32 * w + j < p + z
    · rw [g4 (32 * w + j) c.1 (by omega)]; rfl
    · rw [decide_eq_false c, Bool.and_false]
  · intro h i hi
    by_cases c : p ≤ 32 * w + i ∧ 32 * w + i < p + z
    · rw [ls1_none h (32 * w + i) c.1 (by omega)]; rfl
    · rw [decide_eq_false c, Bool.and_false]
theorem xor_bit {x : Int32} {w i : Nat} (hw : w < 32) (hi : i < 32) : bt (x ^^^ b1 w) i = if i = w then !(bt x i) else bt x i := by
  rw [b_xor, b1_bt hw hi]
  by_cases e : i = w <;> simp [e]
theorem one_sub {x : Int32} (h : x = nI 0 ∨ x = nI 1) : nI 1 - x = (if x = nI 1 then nI 0 else nI 1) := by rcases h with rfl | rfl <;> decide
theorem rep_pc2 {f : Nat → Int32} {V : Nat → Nat → Int32} (R : RepK f V) {w : Nat} (hw : w < 10) : pc (V 0 w ||| V 2 w) = cw f w (nI 0) + cw f w (nI 2) := by
  unfold cw
  rw [← fb_ct_or (fun i hi => by
    rw [decide_eq_true_iff, decide_eq_true_iff]
    intro q
    rw [q.1] at q
    exact absurd q.2 (by decide))]
  exact fb_ct_cong (fun i hi => by rw [b_or, R 0 w i (by decide) hw hi, R 2 w i (by decide) hw hi])
/-- the words below w of a run that is taken -/
def tw (f : Nat → Int32) (s m w : Nat) : Nat → Int32 := bec (upd f 666 (f 666 + nI ((s + m - 1) / 32 + 1))) (fun j => decide (j / 32 < w) && rg s m j) (fun _ => nI 1)
theorem tw_0 (f : Nat → Int32) (s m : Nat) : tw f s m 0 = upd f 666 (f 666 + nI ((s + m - 1) / 32 + 1)) := bec_none (fun j _ => by simp)
theorem tw_10 (f : Nat → Int32) (s m : Nat) : tw f s m 10 = trF f s m := bec_cong (fun j hj => by rw [decide_eq_true (by omega)]; rfl) (fun _ _ _ => rfl)
theorem tw_slot {f : Nat → Int32} {s m w j : Nat} (hj : j < 320) (h : w ≤ j / 32) : tw f s m w j = f j := (bec_slot_n hj (by rw [decide_eq_false (by omega)]; rfl)).trans (upd_n _ _ (by omega))
theorem tw_s {f g : Nat → Int32} {s m w : Nat} {x : Int32} (hg : g = tw f s m w) (hw : w < 10) (hx : ∀ i, i < 32 → bt x i = decide (s ≤ 32 * w + i ∧ 32 * w + i < s + m)) : bec g (mP w x) (fun _ => nI 1) = tw f s m (w + 1) := by
  rw [hg]
  unfold tw
  rw [bec_bec (w := fun _ => nI 1) (fun _ _ _ => rfl) (fun _ _ _ _ => rfl)]
  refine bec_cong (fun j hj => ?_) (fun _ _ _ => rfl)
  unfold mP rg
  by_cases e : j / 32 = w
  · rw [hx _ (by omega), show 32 * w + j % 32 = j by omega, decide_eq_true e, decide_eq_false (p := j / 32 < w) (by omega), decide_eq_true (p := j / 32 < w + 1) (by omega), Bool.eq_iff_iff]
    simp
  · rw [decide_eq_false e, deq (p := j / 32 < w) (q := j / 32 < w + 1) (by omega)]
    simp
theorem tw_kind {f g : Nat → Int32} {s m w : Nat} {x : Int32} (hg : g = tw f s m w) (hf : ∀ j, s ≤ j → j < s + m → f j = nI 0) (hx : ∀ i, i < 32 → bt x i = decide (s ≤ 32 * w + i ∧ 32 * w + i < s + m)) (hw : w < 10 := by omega) : ∀ i, i < 32 → bt x i = true → g (32 * w + i) = nI 0 := fun i hi h => by
  rw [hx i hi, decide_eq_true_iff] at h
  rw [hg, tw_slot (by omega) (by omega)]
  exact hf _ h.1 h.2
theorem rep_looks {f : Nat → Int32} {V V1 : Nat → Nat → Int32} {x : Int32} (R : RepS f V) (h : V1 = vset V 6 (upd (V 6) 1 (V 6 1 + x))) : RepS (upd f 666 (f 666 + x)) V1 := by
  obtain ⟨rk, ⟨rb1, rb2⟩, rl, rz⟩ := R
  have e0 : V1 6 0 = V 6 0 := by rw [h, vset_s, upd_n _ _ (by decide)]
  refine ⟨fun k w i hk hw hi => ?_, ⟨fun w hw => ?_, fun i hi => ?_⟩, ?_, ?_⟩
  · rw [h, vset_n _ _ (by omega), upd_n _ _ (by omega)]
    exact rk k w i hk hw hi
  · rw [e0, upd_n _ _ (by omega)]
    exact rb1 w hw
  · rw [e0]
    exact rb2 i hi
  · rw [h, vset_s, upd_s, rl, upd_s]
  · exact RepZ_of (by rw [h, vset_n _ _ (by decide)]) (by rw [h, vset_n _ _ (by decide)]) (fun j h1 h2 => upd_n _ _ (by omega)) rz
theorem gb_used {f g : Nat → Int32} {V : Nat → Nat → Int32} {a n w e : Nat} {x : Int32} (hg : g = gw f a n w) (hw : w < 10) (R : RepK g V) (hx : ∀ i, i < 32 → bt x i = decide (a ≤ 32 * w + i ∧ 32 * w + i < e)) (he : e = a + n) : ∀ i, i < 32 → bt (V 1 w &&& x) i = gbP f a n (32 * w + i) := fun i hi => by
  rw [b_and, R 1 w i (by decide) hw hi, hx i hi, hg, gw_slot (by omega) (by omega), he]
  unfold gbP rg
  rw [Bool.eq_iff_iff]
  simp only [Bool.and_eq_true, decide_eq_true_eq]
  exact ⟨fun q => ⟨q.2, q.1⟩, fun q => ⟨q.2, q.1⟩⟩
theorem gb_m2 {f g : Nat → Int32} {a n w : Nat} {x y : Int32} (hg : g = gw f a n w) (hO : Own f) (hk : keepB f g) (hw : w < 10) (hu : ∀ i, i < 32 → bt x i = gbP f a n (32 * w + i)) (hy : ∀ i, i < 32 → bt y i = ob g 8 (32 * w + i)) : ∀ i, i < 32 → bt (x &&& y) i = (gbP f a n (32 * w + i) && decide (0 < f (320 + (32 * w + i)))) := fun i hi => by
  rw [b_and, hu i hi, hy i hi, ob_keep hk (Nat.le_refl _)]
  congr 1
  rw [Bool.eq_iff_iff, decide_eq_true_iff]
  exact ob_own hO (by omega)
theorem gb_m1 {f g : Nat → Int32} {a n w : Nat} {x y : Int32} (hg : g = gw f a n w) (hO : Own f) (hk : keepB f g) (hw : w < 10) (hu : ∀ i, i < 32 → bt x i = gbP f a n (32 * w + i)) (hy : ∀ i, i < 32 → bt y i = ob g 8 (32 * w + i)) : ∀ i, i < 32 → bt (x &&& ((x &&& y) ^^^ (-1))) i = (gbP f a n (32 * w + i) && decide (¬ 0 < f (320 + (32 * w + i)))) := fun i hi => by
  rw [b_and, b_xor, gb_m2 hg hO hk hw hu hy i hi, b_m1 i hi, hu i hi, decide_not]
  generalize decide (0 < f (320 + (32 * w + i))) = d
  cases gbP f a n (32 * w + i) <;> cases d <;> rfl
theorem gbP_1 {f : Nat → Int32} {a n j : Nat} (h : gbP f a n j = true) : f j = nI 1 := by
  unfold gbP at h
  rw [Bool.and_eq_true, decide_eq_true_iff] at h
  exact h.2
theorem gb_k1 {f g : Nat → Int32} {a n w : Nat} {m : Int32} (hg : g = gw f a n w) (hw : w < 10) (hm : ∀ i, i < 32 → bt m i = (gbP f a n (32 * w + i) && decide (¬ 0 < f (320 + (32 * w + i))))) : ∀ i, i < 32 → bt m i = true → g (32 * w + i) = nI 1 := fun i hi h => by
  rw [hm i hi, Bool.and_eq_true] at h
  rw [hg, gw_slot (by omega) (by omega)]
  exact gbP_1 h.1
theorem gb_k2 {f g : Nat → Int32} {a n w : Nat} {m1 m2 : Int32} (hg : g = gw f a n w) (hw : w < 10) (h1 : ∀ i, i < 32 → bt m1 i = (gbP f a n (32 * w + i) && decide (¬ 0 < f (320 + (32 * w + i))))) (h2 : ∀ i, i < 32 → bt m2 i = (gbP f a n (32 * w + i) && decide (0 < f (320 + (32 * w + i))))) : ∀ i, i < 32 → bt m2 i = true → bec g (mP w m1) (fun _ => nI 2) (32 * w + i) = nI 1 := fun i hi h => by
  rw [h2 i hi, Bool.and_eq_true, decide_eq_true_iff] at h
  rw [bec_slot_n (by omega) (by rw [mP_at hi, h1 i hi, decide_eq_false (fun q => q h.2), Bool.and_false]), hg, gw_slot (by omega) (by omega)]
  exact gbP_1 h.1
theorem ow_slot {f : Nat → Int32} {p n j : Nat} {x : Int32} (h : j < 320) : ow f p n x j = f j := if_neg (by omega)
theorem rs_free {f : Nat → Int32} {b p n j q z : Nat} {x : Int32} (h : j < 320) : ow (blk f b q z) p n x j = f j := by
  rw [ow_slot h]
  unfold blk
  rw [upd_n _ _ (by omega), upd_n _ _ (by omega)]
theorem gu_word {f : Nat → Int32} {p z : Nat} {m : Int32} (he : p + z ≤ 32 * (p / 32) + 32) (hp : p + z ≤ 320) (hm : ∀ i, i < 32 → bt m i = (decide (f (32 * (p / 32) + i) = nI 3) && decide (p ≤ 32 * (p / 32) + i ∧ 32 * (p / 32) + i < p + z))) : bec (ow f p z (nI 0)) (mP (p / 32) m) (fun _ => nI 0) = guF f p z := by
  refine bec_cong (fun j hj => ?_) (fun _ _ _ => rfl)
  unfold mP rg
  by_cases e : j / 32 = p / 32
  · rw [hm _ (by omega), show 32 * (p / 32) + j % 32 = j by omega, decide_eq_true e, Bool.eq_iff_iff]
    simp only [Bool.and_eq_true, decide_eq_true_eq]
    first | exact ⟨fun q => ⟨q.2, q.1⟩, fun q => ⟨q.2, q.1⟩⟩ | exact ⟨fun q => ⟨q.2.2, q.2.1⟩, fun q => ⟨trivial, q.2, q.1⟩⟩
  · rw [decide_eq_false e, Bool.false_and]
    symm
    rw [Bool.and_eq_false_iff, Bool.and_eq_false_iff, decide_eq_false_iff_not, decide_eq_false_iff_not]
    left
    omega
theorem dm_lt {v : Int32} (h : v < nI 10) : ¬ nI 9 < v := by
  rw [Int32.lt_iff_toInt_lt, nI_toInt (by decide)] at h ⊢
  omega
theorem dm_ge {v : Int32} (h : ¬ v < nI 10) : nI 9 < v := by
  rw [Int32.lt_iff_toInt_lt, nI_toInt (by decide)] at h ⊢
  omega
theorem dm_rep {f : Nat → Int32} {V V1 : Nat → Nat → Int32} {w : Nat} (R : RepS f V) (hb : Bits f) (hw : w < 10) (h : V1 = vset V 6 (upd (V 6) 0 (V 6 0 ^^^ b1 w))) : RepS (upd f (640 + w) (nI 1 - f (640 + w))) V1 := by
  refine rep_sum R h (fun j hj => upd_n _ _ (by omega)) (fun x hx => ?_) (fun i hi => ?_)
  · rw [xor_bit (by omega) (by omega)]
    by_cases e : x = w
    · rw [if_pos e, e, upd_s, R.2.1.1 w hw, one_sub (hb w hw)]
      rcases hb w hw with q | q <;> rw [q] <;> decide
    · rw [if_neg e, upd_n _ _ (by omega)]
      exact R.2.1.1 x hx
  · by_cases h32 : i < 32
    · rw [xor_bit (by omega) h32, if_neg (by omega)]
      exact R.2.1.2 i hi
    · exact b_big (by omega)
theorem dm_bit {f : Nat → Int32} {V V1 : Nat → Nat → Int32} {w : Nat} (R : RepS f V) (hb : Bits f) (hw : w < 10) (h : V1 = vset V 6 (upd (V 6) 0 (V 6 0 ^^^ b1 w))) : bI (bt (V1 6 0) w) = nI 1 - f (640 + w) := by
  rw [(dm_rep R hb hw h).2.1.1 w hw, upd_s, one_sub (hb w hw)]
  rcases hb w hw with q | q <;> rw [q] <;> decide
theorem rp_rep {f : Nat → Int32} {V V1 : Nat → Nat → Int32} {x : Int32} (R : RepS f V) (hx : ∀ i, i < 32 → bt x i = decide (i < 10 ∧ rt f i = nI 1)) (h : V1 = vset V 6 (upd (V 6) 0 x)) : RepS (rpA f).2 V1 := by
  refine rep_sum R h (fun j hj => if_neg (by omega)) (fun w hw => ?_) (fun i hi => ?_)
  · rw [hx w (by omega)]
    show _ = decide (rpF f 10 (640 + w) = nI 1)
    unfold rpF
    rw [if_pos (by omega), show 640 + w - 640 = w by omega]
    exact deq ⟨fun q => q.2, fun q => ⟨hw, q⟩⟩
  · by_cases h32 : i < 32
    · rw [hx i h32]
      exact decide_eq_false (by omega)
    · exact b_big (by omega)
theorem rp_pc {f : Nat → Int32} {V : Nat → Nat → Int32} {x : Int32} (R : RepS f V) (hb : Bits f) (hx : ∀ i, i < 32 → bt x i = decide (i < 10 ∧ rt f i = nI 1)) : pc (V 6 0 ^^^ x) = rpN f 10 := by
  unfold pc rpN
  rw [show (32 : Nat) = 10 + 22 from rfl, fb_ct_split]
  have e2 : fb_ct (fun k => bt (V 6 0 ^^^ x) (10 + k)) 22 = 0 := fb_ct_zero.mpr (fun i hi => by
    rw [b_xor, R.2.1.2 _ (by omega), hx _ (by omega), decide_eq_false (by omega)]
    rfl)
  rw [e2, Nat.add_zero]
  refine fb_ct_cong (fun w hw => ?_)
  rw [b_xor, R.2.1.1 w hw, hx w (by omega), deq (p := w < 10 ∧ rt f w = nI 1) (q := rt f w = nI 1) ⟨fun q => q.2, fun q => ⟨hw, q⟩⟩]
  rcases hb w hw with q | q <;> rcases rt_01 f w with q2 | q2 <;> rw [q, q2] <;> decide
set_option maxHeartbeats 4000000 in
set_option maxRecDepth 100000 in
theorem c_X2_blockBits {l : Launch} {D : va_G} {cI cG cC cR : ClassId} {a : Nat → Nat} {V : Nat → Nat → Int32} {b p z : Nat} (hb8 : b < 8) (h4 : V 4 b = nI p) (h5 : V 5 b = nI z) (hp : p < 320) (hz : z ≤ 32) : CtI l yX2_blockBits wsX2_blockBits { frames := 2, cells := 0, slots := 0, locals := 48 } D (TY cI cG cC cR) [.ref (a 0), .int (nI b)] (SW a cI cG V) (fun (_ : Unit) => SW a cI cG V) (fun (r : Int32) (_ : Unit) => ∀ i, i < 32 → bt r i = decide (p ≤ 32 * (p / 32) + i ∧ 32 * (p / 32) + i < p + z)) := by
  refine CtI.of (cc := cX2_blockBits) (maxL := 3) (ty := .int) (by decide) rfl (Nat.le_of_ble_eq_true rfl) ?_
  intro P0 e0 s0 m0 a0 b0 t0 c0 A0 Q0 ls F hK hP hD hA RETN hl
  obtain ⟨hx, hb, hml, hown, hts⟩ := id F
  have hS : va_S A0 s0.heap s0.heap [] := va_S.rf
  have hl : lv_has ls 3 [(0, .ref (a 0)), (1, .int (nI b))] := hl
  have lk16 := hts (.fieldLink RX2 16 "SlotMaps$Slots" "blockFirst" "[I") (by decide +kernel)
  have lk20 := hts (.fieldLink RX2 20 "SlotMaps$Slots" "blockSize" "[I") (by decide +kernel)
  have hI2 : ∀ w ∈ u_ws RX2 TX2 5, w ∈ wsX2_blockBits := by decide +kernel
  refine lv_aload_n hx hb dX2_blockBits_0 rfl (lv_at hl 0 rfl) ?_
  refine va_get (D := D) (ci := 2) (v := .ref (a 2)) (C := RX2) (T := TX2) (N := 5) hx hb hts hI2 hown hK.1 hP 0 rfl rfl 1 (by decide) lk16 (fun _ h9 => h9) rfl dX2_blockBits_1 ?_
  refine lv_iload_n hx hb dX2_blockBits_4 rfl (lv_at hl 1 rfl) ?_
  refine n_iald hx hb hK hP 2 0 rfl rfl (by decide) (by omega) dX2_blockBits_5 ?_
  refine n_as (x' := (nI p)) (h4) ?_
  refine lv_istore_n (lv' := [(2, .int (nI p)), (0, .ref (a 0)), (1, .int (nI b))]) hx hb dX2_blockBits_6 rfl hl (by decide) rfl (fun ls hl => ?_)
  refine lv_iload_n hx hb dX2_blockBits_7 rfl (lv_at hl 0 rfl) ?_
  refine cl_N0 (As := [.int (nI p)]) (rest := []) F hK hA hP hD hS (c_X3_wordOf (by omega)) (⟨va_cnB 1 hts gX2_blockBits_X3_wordOf_n70 rfl rfl rfl (hK.2 (.methodLinkNest RX2 70 yX3_wordOf RX3) (by decide +kernel)) (hts (.initialized RX3) (by decide +kernel)) (by decide +kernel) ⟨Nat.le_of_ble_eq_true rfl, Nat.le_of_ble_eq_true rfl⟩, hts (.static yX3_wordOf) (by decide +kernel), trivial⟩) rfl hl.1 rfl (Nat.le_of_ble_eq_true rfl) ⟨Nat.zero_le _, Nat.zero_le _⟩ dX2_blockBits_8 (fun r_1 H locs hw_2 hP hS => ?_)
  try dsimp only at hw_2
  obtain rfl : r_1 = (nI (p / 32)) := hw_2
  refine lv_iload_n hx hb dX2_blockBits_11 rfl (lv_at hl 0 rfl) ?_
  refine lv_iload_n hx hb dX2_blockBits_12 rfl (lv_at hl 0 rfl) ?_
  refine lv_aload_n hx hb dX2_blockBits_13 rfl (lv_at hl 1 rfl) ?_
  refine va_get (D := D) (ci := 2) (v := .ref (a 3)) (C := RX2) (T := TX2) (N := 5) hx hb hts hI2 hown hK.1 hP 0 rfl rfl 2 (by decide) lk20 (fun _ h9 => h9) rfl dX2_blockBits_14 ?_
  refine lv_iload_n hx hb dX2_blockBits_17 rfl (lv_at hl 2 rfl) ?_
  refine n_iald hx hb hK hP 3 0 rfl rfl (by decide) (by omega) dX2_blockBits_18 ?_
  refine n_as (x' := (nI z)) (h5) ?_
  refine lv_iadd hx hb dX2_blockBits_19 ?_
  refine n_as (x' := nI (p + z)) (nI_add _ _) ?_
  refine lv_iconst (v := (nI 1)) hx hb dX2_blockBits_20 (by decide) ?_
  refine lv_isub hx hb dX2_blockBits_21 ?_
  refine n_as (x' := (dn (p + z))) (rfl) ?_
  refine cl_N0 (As := [.int (nI (p / 32)), .int (nI p), .int (dn (p + z))]) (rest := []) F hK hA hP hD hS (c_X3_rangeBits (by omega) (by omega) (by omega)) (⟨va_cnB 3 hts gX2_blockBits_X3_rangeBits_n73 rfl rfl rfl (hK.2 (.methodLinkNest RX2 73 yX3_rangeBits RX3) (by decide +kernel)) (hts (.initialized RX3) (by decide +kernel)) (by decide +kernel) ⟨Nat.le_of_ble_eq_true rfl, Nat.le_of_ble_eq_true rfl⟩, hts (.static yX3_rangeBits) (by decide +kernel), trivial⟩) rfl hl.1 rfl (Nat.le_of_ble_eq_true rfl) ⟨Nat.zero_le _, Nat.zero_le _⟩ dX2_blockBits_22 (fun rr H locs hw_4 hP hS => ?_)
  try dsimp only at hw_4
  have hrr := hw_4
  exact RETN _ _ rr () _ _ dX2_blockBits_25 (rfl) (hrr) hP hD hS
set_option maxHeartbeats 4000000 in
set_option maxRecDepth 100000 in
theorem c_X2_ownedBits {l : Launch} {D : va_G} {cI cG cC cR : ClassId} {a : Nat → Nat} {f : Nat → Int32} {V : Nat → Nat → Int32} {w : Nat} (R : RepZ f V) (hB : BInv f) (hz : BZ f) (hw : w < 10) : CtI l yX2_ownedBits wsX2_ownedBits { frames := 3, cells := 0, slots := 0, locals := 70 } D (TY cI cG cC cR) [.ref (a 0), .int (nI w)] (SW a cI cG V) (fun (_ : Unit) => SW a cI cG V) (fun (r : Int32) (_ : Unit) => ∀ i, i < 32 → bt r i = ob f 8 (32 * w + i)) := by
  refine CtI.of (cc := cX2_ownedBits) (maxL := 4) (ty := .int) (by decide) rfl (Nat.le_of_ble_eq_true rfl) ?_
  intro P0 e0 s0 m0 a0 b0 t0 c0 A0 Q0 ls F hK hP hD hA RETN hl
  obtain ⟨hx, hb, hml, hown, hts⟩ := id F
  have hS : va_S A0 s0.heap s0.heap [] := va_S.rf
  have hl : lv_has ls 4 [(0, .ref (a 0)), (1, .int (nI w))] := hl
  have lk16 := hts (.fieldLink RX2 16 "SlotMaps$Slots" "blockFirst" "[I") (by decide +kernel)
  have hI2 : ∀ w ∈ u_ws RX2 TX2 5, w ∈ wsX2_ownedBits := by decide +kernel
  refine lv_iconst (v := (nI 0)) hx hb dX2_ownedBits_0 (by decide) ?_
  refine lv_istore_n (lv' := [(2, .int (nI 0)), (0, .ref (a 0)), (1, .int (nI w))]) hx hb dX2_ownedBits_1 rfl hl (by decide) rfl (fun ls hl => ?_)
  refine lv_iconst (v := (nI 0)) hx hb dX2_ownedBits_2 (by decide) ?_
  refine lv_istore_n (lv' := [(3, .int (nI 0)), (2, .int (nI 0)), (0, .ref (a 0)), (1, .int (nI w))]) hx hb dX2_ownedBits_3 rfl hl (by decide) rfl (fun ls hl => ?_)
  have LP4 : ∀ (nn : Nat) (k : Nat) (x : Int32) (H : Heap) (locs : List Loc) (ls : Array Slot), (k ≤ 8) → (∀ i, i < 32 → bt x i = ob f k (32 * w + i)) → 8 - k < nn → va_P D vwCl (SW a cI cG V) H → va_D A0 (SW a cI cG V) → va_S A0 s0.heap H locs → lv_has ls 4 [(3, .int (nI k)), (2, .int x), (0, .ref (a 0)), (1, .int (nI w))] → W P0 l e0 { frames := 3, cells := 0, slots := 0, locals := 70 } s0 m0 a0 b0 t0 c0 H locs 0 0 Q0 (F0 m0 4 ls []) := by
    intro nn
    induction nn with
    | zero => intro k x H locs ls hk hx1 hmu; exact absurd hmu (Nat.not_lt_zero _)
    | succ nn ih4 =>
      intro k x H locs ls hk hx1 hmu4 hP hD hS hl
      refine lv_iload_n hx hb dX2_ownedBits_4 rfl (lv_at hl 0 rfl) ?_
      refine lv_bipush (v := (nI 8)) hx hb dX2_ownedBits_5 (by decide) ?_
      refine lv_icmp_ge (tgt := 37) hx hb dX2_ownedBits_7 (by decide) (fun c7 => ?_) (fun c7 => ?_)
      · skip
        replace c7 : 8 ≤ k := by rw [nI_leI (by omega) (by omega)] at c7; exact c7
        refine lv_iload_n hx hb dX2_ownedBits_37 rfl (lv_at hl 1 rfl) ?_
        exact RETN _ _ x () _ _ dX2_ownedBits_38 (rfl) (fun i hi => by rw [hx1 i hi, show k = 8 by omega]) hP hD hS
      · skip
        replace c7 : ¬ (8 ≤ k) := by rw [nI_leI (by omega) (by omega)] at c7; exact c7
        obtain ⟨p, z, hp, hz9, h4, h5, h6, h7⟩ := blk_nat R hB hz (b := k) (by omega)
        refine lv_aload_n hx hb dX2_ownedBits_10 rfl (lv_at hl 2 rfl) ?_
        refine va_get (D := D) (ci := 2) (v := .ref (a 2)) (C := RX2) (T := TX2) (N := 5) hx hb hts hI2 hown hK.1 hP 0 rfl rfl 1 (by decide) lk16 (fun _ h9 => h9) rfl dX2_ownedBits_11 ?_
        refine lv_iload_n hx hb dX2_ownedBits_14 rfl (lv_at hl 0 rfl) ?_
        refine n_iald hx hb hK hP 2 0 rfl rfl (by decide) (by omega) dX2_ownedBits_15 ?_
        refine n_as (x' := (nI p)) (h4) ?_
        refine cl_N0 (As := [.int (nI p)]) (rest := []) F hK hA hP hD hS (c_X3_wordOf (by omega)) (⟨va_cnB 1 hts gX2_ownedBits_X3_wordOf_n70 rfl rfl rfl (hK.2 (.methodLinkNest RX2 70 yX3_wordOf RX3) (by decide +kernel)) (hts (.initialized RX3) (by decide +kernel)) (by decide +kernel) ⟨Nat.le_of_ble_eq_true rfl, Nat.le_of_ble_eq_true rfl⟩, hts (.static yX3_wordOf) (by decide +kernel), trivial⟩) rfl hl.1 rfl (Nat.le_of_ble_eq_true rfl) ⟨Nat.zero_le _, Nat.zero_le _⟩ dX2_ownedBits_16 (fun r_1 H locs hw_2 hP hS => ?_)
        try dsimp only at hw_2
        obtain rfl : r_1 = (nI (p / 32)) := hw_2
        refine lv_iload_n hx hb dX2_ownedBits_19 rfl (lv_at hl 3 rfl) ?_
        refine lv_icmp_ne (tgt := 31) hx hb dX2_ownedBits_20 (by decide) (fun c20 => ?_) (fun c20 => ?_)
        · skip
          replace c20 : ¬ (p / 32) = w := by rw [nI_eq (by omega) (by omega)] at c20; exact c20
          refine lv_iinc (v := (nI (k + 1))) (lv' := [(3, .int (nI (k + 1))), (2, .int x), (0, .ref (a 0)), (1, .int (nI w))]) hx hb dX2_ownedBits_31 hl (k := 0) rfl (n_inc1 _) (by decide) rfl (fun ls hl => ?_)
          refine lv_goto (tgt := 4) hx hb dX2_ownedBits_34 (by decide) ?_
          exact ih4 (k + 1) x _ _ _ (by omega) (fun i hi => by rw [hx1 i hi, ob, ib_pz h6 hz9 h7]; rcases h7 with q | ⟨q1, -, q2, -⟩; (rw [decide_eq_false (by omega), Bool.or_false]); (rw [decide_eq_false (fun q => c20 (by have := blk_word q1 q2 q.1 q.2; omega)), Bool.or_false])) (by omega) hP hD hS (lv_sub hl [0, 1, 2, 3] rfl)
        · skip
          replace c20 : (p / 32) = w := by rw [nI_eq (by omega) (by omega)] at c20; exact c20
          refine lv_iload_n hx hb dX2_ownedBits_23 rfl (lv_at hl 1 rfl) ?_
          refine lv_aload_n hx hb dX2_ownedBits_24 rfl (lv_at hl 2 rfl) ?_
          refine lv_iload_n hx hb dX2_ownedBits_25 rfl (lv_at hl 0 rfl) ?_
          refine cl_Vi (b := (a 0)) (As := [.int (nI k)]) (rest := [.int x]) (wc := SW a cI cG V) (wsN := fun (_ : Unit) => SW a cI cG V) F hK hA hP hD hS (c_X2_blockBits (by omega) h4 h5 hp hz9) (cwV 1 hts gX2_ownedBits_X2_blockBits rfl rfl rfl (by decide +kernel) ⟨Nat.le_of_ble_eq_true rfl, Nat.le_of_ble_eq_true rfl⟩) [0, 1, 2, 3, 4, 5, 6, 7] [] [0, 1, 2, 3, 4, 5, 6, 7] ([]) rfl rfl (fun _ => rfl) (by decide) (by decide) 0 rfl rfl rfl hl.1 rfl (Nat.le_of_ble_eq_true rfl) ⟨Nat.zero_le _, Nat.zero_le _⟩ dX2_ownedBits_26 (fun rr _ H locs hw_3 hP hD hS => ?_)
          try dsimp only at hw_3 hP hD
          have hrr := hw_3
          refine lv_ior hx hb dX2_ownedBits_29 ?_
          refine lv_istore_n (lv' := [(2, .int (x ||| rr)), (3, .int (nI k)), (0, .ref (a 0)), (1, .int (nI w))]) hx hb dX2_ownedBits_30 rfl hl (by decide) rfl (fun ls hl => ?_)
          refine lv_iinc (v := (nI (k + 1))) (lv' := [(3, .int (nI (k + 1))), (2, .int (x ||| rr)), (0, .ref (a 0)), (1, .int (nI w))]) hx hb dX2_ownedBits_31 hl (k := 1) rfl (n_inc1 _) (by decide) rfl (fun ls hl => ?_)
          refine lv_goto (tgt := 4) hx hb dX2_ownedBits_34 (by decide) ?_
          exact ih4 (k + 1) (x ||| rr) _ _ _ (by omega) (fun i hi => by rw [b_or, hx1 i hi, hrr i hi, ob, ib_pz h6 hz9 h7, c20]) (by omega) hP hD hS (lv_sub hl [0, 1, 2, 3] rfl)
  exact LP4 _ 0 (nI 0) _ _ _ (by omega) (fun i hi => b_0 i) (Nat.lt_succ_self _) hP hD hS (lv_sub hl [0, 1, 2, 3] rfl)
set_option maxHeartbeats 4000000 in
set_option maxRecDepth 100000 in
theorem c_X2_totalInBlock {l : Launch} {D : va_G} {cI cG cC cR : ClassId} {a : Nat → Nat} {f : Nat → Int32} {V : Nat → Nat → Int32} {b p z k : Nat} (R : RepK f V) (hk : k < 4) (hb8 : b < 8) (h4 : V 4 b = nI p) (h5 : V 5 b = nI z) (hz : okz z) (hm : p % z = 0) (hpz : p + z ≤ 320) : CtI l yX2_totalInBlock wsX2_totalInBlock { frames := 3, cells := 0, slots := 0, locals := 70 } D (TY cI cG cC cR) [.ref (a 0), .int (nI b), .int (nI k)] (SW a cI cG V) (fun (_ : Unit) => SW a cI cG V) (fun (r : Int32) (_ : Unit) => r = nI (fb_ct (fun i => decide (f (p + i) = nI k)) z)) := by
  refine CtI.of (cc := cX2_totalInBlock) (maxL := 3) (ty := .int) (by decide) rfl (Nat.le_of_ble_eq_true rfl) ?_
  intro P0 e0 s0 m0 a0 b0 t0 c0 A0 Q0 ls F hK hP hD hA RETN hl
  obtain ⟨hx, hb, hml, hown, hts⟩ := id F
  have hS : va_S A0 s0.heap s0.heap [] := va_S.rf
  have hl : lv_has ls 3 [(0, .ref (a 0)), (1, .int (nI b)), (2, .int (nI k))] := hl
  have hzl := okz_le hz
  have he := blk_end hz hm
  have lk11 := hts (.fieldLink RX2 11 "SlotMaps$Slots" "bits" "[[I") (by decide +kernel)
  have lk16 := hts (.fieldLink RX2 16 "SlotMaps$Slots" "blockFirst" "[I") (by decide +kernel)
  have hI2 : ∀ w ∈ u_ws RX2 TX2 5, w ∈ wsX2_totalInBlock := by decide +kernel
  refine lv_aload_n hx hb dX2_totalInBlock_0 rfl (lv_at hl 0 rfl) ?_
  refine va_get (D := D) (ci := 2) (v := .ref (a 1)) (C := RX2) (T := TX2) (N := 5) hx hb hts hI2 hown hK.1 hP 0 rfl rfl 0 (by decide) lk11 (fun _ h9 => h9) rfl dX2_totalInBlock_1 ?_
  refine lv_iload_n hx hb dX2_totalInBlock_4 rfl (lv_at hl 2 rfl) ?_
  refine n_aald (b := a (4 + k)) hx hb hK hP 1 1 rfl rfl (by decide) (by omega) (if_pos (by omega)) dX2_totalInBlock_5 ?_
  refine lv_aload_n hx hb dX2_totalInBlock_6 rfl (lv_at hl 0 rfl) ?_
  refine va_get (D := D) (ci := 2) (v := .ref (a 2)) (C := RX2) (T := TX2) (N := 5) hx hb hts hI2 hown hK.1 hP 0 rfl rfl 1 (by decide) lk16 (fun _ h9 => h9) rfl dX2_totalInBlock_7 ?_
  refine lv_iload_n hx hb dX2_totalInBlock_10 rfl (lv_at hl 1 rfl) ?_
  refine n_iald hx hb hK hP 2 0 rfl rfl (by decide) (by omega) dX2_totalInBlock_11 ?_
  refine n_as (x' := (nI p)) (h4) ?_
  refine cl_N0 (As := [.int (nI p)]) (rest := [.ref (a (4 + k))]) F hK hA hP hD hS (c_X3_wordOf (by omega)) (⟨va_cnB 1 hts gX2_totalInBlock_X3_wordOf_n70 rfl rfl rfl (hK.2 (.methodLinkNest RX2 70 yX3_wordOf RX3) (by decide +kernel)) (hts (.initialized RX3) (by decide +kernel)) (by decide +kernel) ⟨Nat.le_of_ble_eq_true rfl, Nat.le_of_ble_eq_true rfl⟩, hts (.static yX3_wordOf) (by decide +kernel), trivial⟩) rfl hl.1 rfl (Nat.le_of_ble_eq_true rfl) ⟨Nat.zero_le _, Nat.zero_le _⟩ dX2_totalInBlock_12 (fun r_1 H locs hw_2 hP hS => ?_)
  try dsimp only at hw_2
  obtain rfl : r_1 = (nI (p / 32)) := hw_2
  refine n_iald hx hb hK hP (4 + k) 0 (sw_at (by omega)) rfl (by decide) (by omega) dX2_totalInBlock_15 ?_
  refine lv_aload_n hx hb dX2_totalInBlock_16 rfl (lv_at hl 0 rfl) ?_
  refine lv_iload_n hx hb dX2_totalInBlock_17 rfl (lv_at hl 1 rfl) ?_
  refine cl_Vi (b := (a 0)) (As := [.int (nI b)]) (rest := [.int (V k (p / 32))]) (wc := SW a cI cG V) (wsN := fun (_ : Unit) => SW a cI cG V) F hK hA hP hD hS (c_X2_blockBits hb8 h4 h5 (by omega) (by omega)) (cwV 1 hts gX2_totalInBlock_X2_blockBits rfl rfl rfl (by decide +kernel) ⟨Nat.le_of_ble_eq_true rfl, Nat.le_of_ble_eq_true rfl⟩) [0, 1, 2, 3, 4, 5, 6, 7] [] [0, 1, 2, 3, 4, 5, 6, 7] ([]) rfl rfl (fun _ => rfl) (by decide) (by decide) 0 rfl rfl rfl hl.1 rfl (Nat.le_of_ble_eq_true rfl) ⟨Nat.zero_le _, Nat.zero_le _⟩ dX2_totalInBlock_18 (fun rr _ H locs hw_3 hP hD hS => ?_)
  try dsimp only at hw_3 hP hD
  have hrr := hw_3
  refine lv_iand hx hb dX2_totalInBlock_21 ?_
  refine cl_S0 (As := [.int ((V k (p / 32)) &&& rr)]) (rest := []) F hK hA hP hD hS (c_J6_bitCount_0f7a4) (va_cwS 1 hts gX2_totalInBlock_J6_bitCount_0f7a4 rfl rfl rfl (by decide +kernel) ⟨Nat.le_of_ble_eq_true rfl, Nat.le_of_ble_eq_true rfl⟩) rfl hl.1 rfl (Nat.le_of_ble_eq_true rfl) ⟨Nat.zero_le _, Nat.zero_le _⟩ dX2_totalInBlock_22 (fun r_5 H locs hw_6 hP hS => ?_)
  try dsimp only at hw_6
  obtain rfl : r_5 = (nI (fb_ct (fun i => decide (f (p + i) = nI k)) z)) := by rw [hw_6]; exact congrArg nI ((pc_of (fun i hi => by rw [b_and, hrr i hi, R k _ i hk (by omega) hi, Bool.and_comm])).trans (ct_win (q := fun j => decide (f j = nI k)) (by omega) he))
  exact RETN _ _ (nI (fb_ct (fun i => decide (f (p + i) = nI k)) z)) () _ _ dX2_totalInBlock_25 (rfl) (rfl) hP hD hS
set_option maxHeartbeats 4000000 in
set_option maxRecDepth 100000 in
theorem c_X2_blockOf {l : Launch} {D : va_G} {cI cG cC cR : ClassId} {a : Nat → Nat} {f : Nat → Int32} {V : Nat → Nat → Int32} {sl : Nat} (R : RepZ f V) (hB : BInv f) (hz : BZ f) (hO : Own f) (hs : sl < 320) : CtI l yX2_blockOf wsX2_blockOf { frames := 0, cells := 0, slots := 0, locals := 0 } D (TY cI cG cC cR) [.ref (a 0), .int (nI sl)] (SW a cI cG V) (fun (_ : Unit) => SW a cI cG V) (fun (r : Int32) (_ : Unit) => r = (if f (320 + sl) = nI 0 then -9 else f (320 + sl) - nI 1)) := by
  refine CtI.of (cc := cX2_blockOf) (maxL := 3) (ty := .int) (by decide) rfl (Nat.le_of_ble_eq_true rfl) ?_
  intro P0 e0 s0 m0 a0 b0 t0 c0 A0 Q0 ls F hK hP hD hA RETN hl
  obtain ⟨hx, hb, hml, hown, hts⟩ := id F
  have hS : va_S A0 s0.heap s0.heap [] := va_S.rf
  have hl : lv_has ls 3 [(0, .ref (a 0)), (1, .int (nI sl))] := hl
  obtain ⟨o, ho1, ho2, ho3, -⟩ := hO sl hs
  have lk16 := hts (.fieldLink RX2 16 "SlotMaps$Slots" "blockFirst" "[I") (by decide +kernel)
  have lk20 := hts (.fieldLink RX2 20 "SlotMaps$Slots" "blockSize" "[I") (by decide +kernel)
  have hI2 : ∀ w ∈ u_ws RX2 TX2 5, w ∈ wsX2_blockOf := by decide +kernel
  refine lv_iconst (v := (nI 0)) hx hb dX2_blockOf_0 (by decide) ?_
  refine lv_istore_n (lv' := [(2, .int (nI 0)), (0, .ref (a 0)), (1, .int (nI sl))]) hx hb dX2_blockOf_1 rfl hl (by decide) rfl (fun ls hl => ?_)
  have LP2 : ∀ (nn : Nat) (k : Nat) (H : Heap) (locs : List Loc) (ls : Array Slot), (k ≤ 8) → (∀ j, j < k → ibB f j sl = false) → 8 - k < nn → va_P D vwCl (SW a cI cG V) H → va_D A0 (SW a cI cG V) → va_S A0 s0.heap H locs → lv_has ls 3 [(2, .int (nI k)), (0, .ref (a 0)), (1, .int (nI sl))] → W P0 l e0 { frames := 0, cells := 0, slots := 0, locals := 0 } s0 m0 a0 b0 t0 c0 H locs 0 0 Q0 (F0 m0 2 ls []) := by
    intro nn
    induction nn with
    | zero => intro k H locs ls hk hno hmu; exact absurd hmu (Nat.not_lt_zero _)
    | succ nn ih2 =>
      intro k H locs ls hk hno hmu2 hP hD hS hl
      refine lv_iload_n hx hb dX2_blockOf_2 rfl (lv_at hl 0 rfl) ?_
      refine lv_bipush (v := (nI 8)) hx hb dX2_blockOf_3 (by decide) ?_
      refine lv_icmp_ge (tgt := 43) hx hb dX2_blockOf_5 (by decide) (fun c5 => ?_) (fun c5 => ?_)
      · skip
        replace c5 : 8 ≤ k := by rw [nI_leI (by omega) (by omega)] at c5; exact c5
        refine lv_bipush (v := (-9)) hx hb dX2_blockOf_43 (by decide) ?_
        have ho4 : o = 0 := by
          rcases Nat.eq_zero_or_pos o with q | q
          · exact q
          · have q2 := (ho3 (o - 1) (by omega)).mp (by omega)
            rw [hno (o - 1) (by omega)] at q2
            exact absurd q2 (by decide)
        exact RETN _ _ (-9) () _ _ dX2_blockOf_45 (rfl) (by rw [ho2, ho4]; rfl) hP hD hS
      · skip
        replace c5 : ¬ (8 ≤ k) := by rw [nI_leI (by omega) (by omega)] at c5; exact c5
        obtain ⟨p, z, hp, hz9, h4, h5, h6, h7⟩ := blk_nat R hB hz (b := k) (by omega)
        have hib := ib_pz (s := sl) h6 hz9 h7
        refine lv_iload_n hx hb dX2_blockOf_8 rfl (lv_at hl 2 rfl) ?_
        refine lv_aload_n hx hb dX2_blockOf_9 rfl (lv_at hl 1 rfl) ?_
        refine va_get (D := D) (ci := 2) (v := .ref (a 2)) (C := RX2) (T := TX2) (N := 5) hx hb hts hI2 hown hK.1 hP 0 rfl rfl 1 (by decide) lk16 (fun _ h9 => h9) rfl dX2_blockOf_10 ?_
        refine lv_iload_n hx hb dX2_blockOf_13 rfl (lv_at hl 0 rfl) ?_
        refine n_iald hx hb hK hP 2 0 rfl rfl (by decide) (by omega) dX2_blockOf_14 ?_
        refine n_as (x' := (nI p)) (h4) ?_
        refine lv_icmp_lt (tgt := 37) hx hb dX2_blockOf_15 (by decide) (fun c15 => ?_) (fun c15 => ?_)
        · skip
          replace c15 : sl < p := by rw [nI_ltI (by omega) (by omega)] at c15; exact c15
          refine lv_iinc (v := (nI (k + 1))) (lv' := [(2, .int (nI (k + 1))), (0, .ref (a 0)), (1, .int (nI sl))]) hx hb dX2_blockOf_37 hl (k := 0) rfl (n_inc1 _) (by decide) rfl (fun ls hl => ?_)
          refine lv_goto (tgt := 2) hx hb dX2_blockOf_40 (by decide) ?_
          exact ih2 (k + 1) _ _ _ (by omega) (fun j hj => (Nat.lt_or_ge j k).elim (fun q => hno j q) (fun q => by rw [show j = k by omega, hib]; exact decide_eq_false (by omega))) (by omega) hP hD hS (lv_sub hl [0, 1, 2] rfl)
        · skip
          replace c15 : ¬ (sl < p) := by rw [nI_ltI (by omega) (by omega)] at c15; exact c15
          refine lv_iload_n hx hb dX2_blockOf_18 rfl (lv_at hl 2 rfl) ?_
          refine lv_aload_n hx hb dX2_blockOf_19 rfl (lv_at hl 1 rfl) ?_
          refine va_get (D := D) (ci := 2) (v := .ref (a 2)) (C := RX2) (T := TX2) (N := 5) hx hb hts hI2 hown hK.1 hP 0 rfl rfl 1 (by decide) lk16 (fun _ h9 => h9) rfl dX2_blockOf_20 ?_
          refine lv_iload_n hx hb dX2_blockOf_23 rfl (lv_at hl 0 rfl) ?_
          refine n_iald hx hb hK hP 2 0 rfl rfl (by decide) (by omega) dX2_blockOf_24 ?_
          refine n_as (x' := (nI p)) (h4) ?_
          refine lv_aload_n hx hb dX2_blockOf_25 rfl (lv_at hl 1 rfl) ?_
          refine va_get (D := D) (ci := 2) (v := .ref (a 3)) (C := RX2) (T := TX2) (N := 5) hx hb hts hI2 hown hK.1 hP 0 rfl rfl 2 (by decide) lk20 (fun _ h9 => h9) rfl dX2_blockOf_26 ?_
          refine lv_iload_n hx hb dX2_blockOf_29 rfl (lv_at hl 0 rfl) ?_
          refine n_iald hx hb hK hP 3 0 rfl rfl (by decide) (by omega) dX2_blockOf_30 ?_
          refine n_as (x' := (nI z)) (h5) ?_
          refine lv_iadd hx hb dX2_blockOf_31 ?_
          refine n_as (x' := nI (p + z)) (nI_add _ _) ?_
          refine lv_icmp_ge (tgt := 37) hx hb dX2_blockOf_32 (by decide) (fun c32 => ?_) (fun c32 => ?_)
          · skip
            replace c32 : (p + z) ≤ sl := by rw [nI_leI (by omega) (by omega)] at c32; exact c32
            refine lv_iinc (v := (nI (k + 1))) (lv' := [(2, .int (nI (k + 1))), (0, .ref (a 0)), (1, .int (nI sl))]) hx hb dX2_blockOf_37 hl (k := 0) rfl (n_inc1 _) (by decide) rfl (fun ls hl => ?_)
            refine lv_goto (tgt := 2) hx hb dX2_blockOf_40 (by decide) ?_
            exact ih2 (k + 1) _ _ _ (by omega) (fun j hj => (Nat.lt_or_ge j k).elim (fun q => hno j q) (fun q => by rw [show j = k by omega, hib]; exact decide_eq_false (by omega))) (by omega) hP hD hS (lv_sub hl [0, 1, 2] rfl)
          · skip
            replace c32 : ¬ ((p + z) ≤ sl) := by rw [nI_leI (by omega) (by omega)] at c32; exact c32
            refine lv_iload_n hx hb dX2_blockOf_35 rfl (lv_at hl 0 rfl) ?_
            have ho4 : o = k + 1 := (ho3 k (by omega)).mpr (by rw [hib]; exact decide_eq_true (by omega))
            exact RETN _ _ (nI k) () _ _ dX2_blockOf_36 (rfl) (by rw [ho2, ho4, if_neg (by rw [nI_eq (by omega) (by decide)]; omega), pk_sub (by omega)]; rfl) hP hD hS
  exact LP2 _ 0 _ _ _ (by omega) (fun j hj => absurd hj (Nat.not_lt_zero j)) (Nat.lt_succ_self _) hP hD hS (lv_sub hl [0, 1, 2] rfl)
set_option maxHeartbeats 4000000 in
set_option maxRecDepth 100000 in
theorem c_X2_takeSideBySide {l : Launch} {D : va_G} {cI cG cC cR : ClassId} {a : Nat → Nat} {f : Nat → Int32} {V : Nat → Nat → Int32} {v : Int32} (R : RepS f V) : CtI l yX2_takeSideBySide wsX2_takeSideBySide { frames := 3, cells := 0, slots := 0, locals := 64 } D (TY cI cG cC cR) [.ref (a 0), .int v] (SW a cI cG V) (fun (u : Nat → Nat → Int32) => SW a cI cG u) (fun (r : Int32) (u : Nat → Nat → Int32) => r = (trA f v).1 ∧ RepS (trA f v).2 u) := by
  refine CtI.of (cc := cX2_takeSideBySide) (maxL := 5) (ty := .int) (by decide) rfl (Nat.le_of_ble_eq_true rfl) ?_
  intro P0 e0 s0 m0 a0 b0 t0 c0 A0 Q0 ls F hK hP hD hA RETN hl
  obtain ⟨hx, hb, hml, hown, hts⟩ := id F
  have hS : va_S A0 s0.heap s0.heap [] := va_S.rf
  have hl : lv_has ls 5 [(0, .ref (a 0)), (1, .int v)] := hl
  have lk27 := hts (.fieldLink RX2 27 "SlotMaps$Slots" "looks" "I") (by decide +kernel)
  have hI2 : ∀ w ∈ u_ws RX2 TX2 5, w ∈ wsX2_takeSideBySide := by decide +kernel
  refine lv_iload_n hx hb dX2_takeSideBySide_0 rfl (lv_at hl 1 rfl) ?_
  refine cl_N0 (As := [.int v]) (rest := []) F hK hA hP hD hS (c_X3_isRunLength) (⟨va_cnB 1 hts gX2_takeSideBySide_X3_isRunLength_n64 rfl rfl rfl (hK.2 (.methodLinkNest RX2 64 yX3_isRunLength RX3) (by decide +kernel)) (hts (.initialized RX3) (by decide +kernel)) (by decide +kernel) ⟨Nat.le_of_ble_eq_true rfl, Nat.le_of_ble_eq_true rfl⟩, hts (.static yX3_isRunLength) (by decide +kernel), trivial⟩) rfl hl.1 rfl (Nat.le_of_ble_eq_true rfl) ⟨Nat.zero_le _, Nat.zero_le _⟩ dX2_takeSideBySide_1 (fun r_1 H locs hw_2 hP hS => ?_)
  try dsimp only at hw_2
  obtain rfl : r_1 = (bI (inB v (nI 1) (nI 64))) := hw_2
  refine lv_if_ne (tgt := 9) hx hb dX2_takeSideBySide_4 (by decide) (fun c4 => ?_) (fun c4 => ?_)
  · skip
    replace c4 : ¬ (bI (inB v (nI 1) (nI 64))) = nI 0 := c4
    obtain ⟨m, hlo_m, hhi_m, rfl⟩ := inB_nat (by decide) (by decide) (bI_ct c4)
    refine lv_aload_n hx hb dX2_takeSideBySide_9 rfl (lv_at hl 0 rfl) ?_
    refine lv_iload_n hx hb dX2_takeSideBySide_10 rfl (lv_at hl 1 rfl) ?_
    refine cl_Vi (b := (a 0)) (As := [.int (nI m)]) (rest := []) (wc := SW a cI cG V) (wsN := fun (_ : Unit) => SW a cI cG V) F hK hA hP hD hS (c_X2_runStart R.1 (by omega) (by omega)) (cwV 1 hts gX2_takeSideBySide_X2_runStart rfl rfl rfl (by decide +kernel) ⟨Nat.le_of_ble_eq_true rfl, Nat.le_of_ble_eq_true rfl⟩) [0, 1, 2, 3, 4, 5, 6, 7] [] [0, 1, 2, 3, 4, 5, 6, 7] ([]) rfl rfl (fun _ => rfl) (by decide) (by decide) 0 rfl rfl rfl hl.1 rfl (Nat.le_of_ble_eq_true rfl) ⟨Nat.zero_le _, Nat.zero_le _⟩ dX2_takeSideBySide_11 (fun rr _ H locs hw_3 hP hD hS => ?_)
    try dsimp only at hw_3 hP hD
    have hrr : rr = oI (rn f m 320 0 0) := hw_3
    cases ho : rn f m 320 0 0 with
    | none =>
      obtain rfl : rr = -9 := by rw [hrr, ho]; rfl
      refine lv_istore_n (lv' := [(2, .int (-9)), (0, .ref (a 0)), (1, .int (nI m))]) hx hb dX2_takeSideBySide_14 rfl hl (by decide) rfl (fun ls hl => ?_)
      refine lv_iload_n hx hb dX2_takeSideBySide_15 rfl (lv_at hl 0 rfl) ?_
      refine lv_bipush (v := (-9)) hx hb dX2_takeSideBySide_16 (by decide) ?_
      refine lv_icmp_ne (tgt := 24) hx hb dX2_takeSideBySide_18 (by decide) (fun c18 => ?_) (fun c18 => ?_)
      · skip
        exfalso
        exact c18 rfl
      · skip
        refine lv_bipush (v := (-3)) hx hb dX2_takeSideBySide_21 (by decide) ?_
        exact RETN _ _ (-3) V _ _ dX2_takeSideBySide_23 (rfl) (by rw [trA_0 (by omega) (by omega) ho]; exact ⟨rfl, R⟩) hP hD hS
    | some sl =>
      obtain rfl : rr = nI sl := by rw [hrr, ho]; rfl
      obtain ⟨hsl, hfree⟩ := rn_ok (by omega) ho
      refine lv_istore_n (lv' := [(2, .int (nI sl)), (0, .ref (a 0)), (1, .int (nI m))]) hx hb dX2_takeSideBySide_14 rfl hl (by decide) rfl (fun ls hl => ?_)
      refine lv_iload_n hx hb dX2_takeSideBySide_15 rfl (lv_at hl 0 rfl) ?_
      refine lv_bipush (v := (-9)) hx hb dX2_takeSideBySide_16 (by decide) ?_
      refine lv_icmp_ne (tgt := 24) hx hb dX2_takeSideBySide_18 (by decide) (fun c18 => ?_) (fun c18 => ?_)
      · skip
        refine lv_iload_n hx hb dX2_takeSideBySide_24 rfl (lv_at hl 0 rfl) ?_
        refine lv_iload_n hx hb dX2_takeSideBySide_25 rfl (lv_at hl 2 rfl) ?_
        refine lv_iadd hx hb dX2_takeSideBySide_26 ?_
        refine n_as (x' := nI (sl + m)) (nI_add _ _) ?_
        refine lv_iconst (v := (nI 1)) hx hb dX2_takeSideBySide_27 (by decide) ?_
        refine lv_isub hx hb dX2_takeSideBySide_28 ?_
        refine n_as (x' := nI ((sl + m) - 1)) (pk_sub (by omega)) ?_
        refine lv_istore_n (lv' := [(3, .int (nI ((sl + m) - 1))), (2, .int (nI sl)), (0, .ref (a 0)), (1, .int (nI m))]) hx hb dX2_takeSideBySide_29 rfl hl (by decide) rfl (fun ls hl => ?_)
        refine lv_aload_n hx hb dX2_takeSideBySide_30 rfl (lv_at hl 2 rfl) ?_
        refine lv_dup hx hb dX2_takeSideBySide_31 rfl ?_
        refine va_get (D := D) (ci := 2) (v := .int (V 6 1)) (C := RX2) (T := TX2) (N := 5) hx hb hts hI2 hown hK.1 hP 0 rfl rfl 4 (by decide) lk27 (fun _ h9 => h9) rfl dX2_takeSideBySide_32 ?_
        refine lv_iload_n hx hb dX2_takeSideBySide_35 rfl (lv_at hl 0 rfl) ?_
        refine cl_N0 (As := [.int (nI ((sl + m) - 1))]) (rest := [.int (V 6 1), .ref (a 0)]) F hK hA hP hD hS (c_X3_wordOf (by omega)) (⟨va_cnB 1 hts gX2_takeSideBySide_X3_wordOf_n70 rfl rfl rfl (hK.2 (.methodLinkNest RX2 70 yX3_wordOf RX3) (by decide +kernel)) (hts (.initialized RX3) (by decide +kernel)) (by decide +kernel) ⟨Nat.le_of_ble_eq_true rfl, Nat.le_of_ble_eq_true rfl⟩, hts (.static yX3_wordOf) (by decide +kernel), trivial⟩) rfl hl.1 rfl (Nat.le_of_ble_eq_true rfl) ⟨Nat.zero_le _, Nat.zero_le _⟩ dX2_takeSideBySide_36 (fun r_5 H locs hw_6 hP hS => ?_)
        try dsimp only at hw_6
        obtain rfl : r_5 = (nI ((sl + m - 1) / 32)) := hw_6
        refine lv_iconst (v := (nI 1)) hx hb dX2_takeSideBySide_39 (by decide) ?_
        refine lv_iadd hx hb dX2_takeSideBySide_40 ?_
        refine n_as (x' := nI (((sl + m - 1) / 32) + 1)) (nI_add _ _) ?_
        refine lv_iadd hx hb dX2_takeSideBySide_41 ?_
        refine va_put (D := D) (ci := 2) (v := .int ((V 6 1) + (nI (((sl + m - 1) / 32) + 1)))) (ty := .int) (C := RX2) (T := TX2) (N := 5) hx hb hts hI2 tyX2 tyX2_ok nmX2 hown hK.1 hP hD hS 0 rfl rfl 4 (by decide) lk27 (fun _ h9 => h9) rfl (by decide +kernel) rfl rfl (Nat.le_of_ble_eq_true rfl) dX2_takeSideBySide_42 (fun H locs hP hD hS => ?_)
        have hP : va_P D vwCl (SW a cI cG (vset V 6 (upd (V 6) 1 ((V 6 1) + (nI (((sl + m - 1) / 32) + 1)))))) H := hP
        have hD : va_D A0 (SW a cI cG (vset V 6 (upd (V 6) 1 ((V 6 1) + (nI (((sl + m - 1) / 32) + 1)))))) := hD
        obtain ⟨V_7, hV_7⟩ : ∃ z9, z9 = (vset V 6 (upd (V 6) 1 ((V 6 1) + (nI (((sl + m - 1) / 32) + 1))))) := ⟨_, rfl⟩
        rw [← hV_7] at hP hD
        have R0 : RepS (tw f sl m 0) V_7 := by rw [tw_0]; exact rep_looks R hV_7
        refine lv_iconst (v := (nI 0)) hx hb dX2_takeSideBySide_45 (by decide) ?_
        refine lv_istore (lv' := [(4, .int (nI 0)), (3, .int (nI ((sl + m) - 1))), (2, .int (nI sl)), (0, .ref (a 0)), (1, .int (nI m))]) hx hb dX2_takeSideBySide_46 hl (by decide) rfl (fun ls hl => ?_)
        have LP48 : ∀ (nn : Nat) (w : Nat) (g : Nat → Int32) (VV : Nat → Nat → Int32) (H : Heap) (locs : List Loc) (ls : Array Slot), (w ≤ 10) → (g = tw f sl m w) → (RepS g VV) → 10 - w < nn → va_P D vwCl (SW a cI cG VV) H → va_D A0 (SW a cI cG VV) → va_S A0 s0.heap H locs → lv_has ls 5 [(4, .int (nI w)), (3, .int (nI ((sl + m) - 1))), (2, .int (nI sl)), (0, .ref (a 0)), (1, .int (nI m))] → W P0 l e0 { frames := 3, cells := 0, slots := 0, locals := 64 } s0 m0 a0 b0 t0 c0 H locs 0 0 Q0 (F0 m0 48 ls []) := by
          intro nn
          induction nn with
          | zero => intro w g VV H locs ls hw hg R1 hmu; exact absurd hmu (Nat.not_lt_zero _)
          | succ nn ih48 =>
            intro w g VV H locs ls hw hg R1 hmu48 hP hD hS hl
            refine lv_iload hx hb dX2_takeSideBySide_48 (lv_at hl 0 rfl) ?_
            refine lv_bipush (v := (nI 10)) hx hb dX2_takeSideBySide_50 (by decide) ?_
            refine lv_icmp_ge (tgt := 76) hx hb dX2_takeSideBySide_52 (by decide) (fun c52 => ?_) (fun c52 => ?_)
            · skip
              replace c52 : 10 ≤ w := by rw [nI_leI (by omega) (by omega)] at c52; exact c52
              refine lv_iload_n hx hb dX2_takeSideBySide_76 rfl (lv_at hl 2 rfl) ?_
              exact RETN _ _ (nI sl) VV _ _ dX2_takeSideBySide_77 (rfl) (by rw [trA_s (by omega) (by omega) ho, ← tw_10, ← show w = 10 by omega, ← hg]; exact ⟨rfl, R1⟩) hP hD hS
            · skip
              replace c52 : ¬ (10 ≤ w) := by rw [nI_leI (by omega) (by omega)] at c52; exact c52
              refine lv_aload_n hx hb dX2_takeSideBySide_55 rfl (lv_at hl 3 rfl) ?_
              refine lv_iload hx hb dX2_takeSideBySide_56 (lv_at hl 0 rfl) ?_
              refine lv_iload hx hb dX2_takeSideBySide_58 (lv_at hl 0 rfl) ?_
              refine lv_iload_n hx hb dX2_takeSideBySide_60 rfl (lv_at hl 2 rfl) ?_
              refine lv_iload_n hx hb dX2_takeSideBySide_61 rfl (lv_at hl 1 rfl) ?_
              refine n_as (x' := (dn (sl + m))) (by rw [← dn_s, show sl + m - 1 + 1 = sl + m by omega]) ?_
              refine cl_N0 (As := [.int (nI w), .int (nI sl), .int (dn (sl + m))]) (rest := [.int (nI w), .ref (a 0)]) F hK hA hP hD hS (c_X3_rangeBits (by omega) (by omega) (by omega)) (⟨va_cnB 3 hts gX2_takeSideBySide_X3_rangeBits_n73 rfl rfl rfl (hK.2 (.methodLinkNest RX2 73 yX3_rangeBits RX3) (by decide +kernel)) (hts (.initialized RX3) (by decide +kernel)) (by decide +kernel) ⟨Nat.le_of_ble_eq_true rfl, Nat.le_of_ble_eq_true rfl⟩, hts (.static yX3_rangeBits) (by decide +kernel), trivial⟩) rfl hl.1 rfl (Nat.le_of_ble_eq_true rfl) ⟨Nat.zero_le _, Nat.zero_le _⟩ dX2_takeSideBySide_62 (fun r2 H locs hw_9 hP hS => ?_)
              try dsimp only at hw_9
              have hr2 := hw_9
              refine lv_iconst (v := (nI 0)) hx hb dX2_takeSideBySide_65 (by decide) ?_
              refine lv_iconst (v := (nI 1)) hx hb dX2_takeSideBySide_66 (by decide) ?_
              refine cl_Vv (b := (a 0)) (As := [.int (nI w), .int r2, .int (nI 0), .int (nI 1)]) (rest := []) (wc := SW a cI cG VV) (wsN := fun (V9 : Nat → Nat → Int32) => SW a cI cG V9) F hK hA hP hD hS (c_X2_change R1 (by omega) (by decide) (by decide) (by decide) (tw_kind hg hfree hr2)) (cwV 4 hts gX2_takeSideBySide_X2_change rfl rfl rfl (by decide +kernel) ⟨Nat.le_of_ble_eq_true rfl, Nat.le_of_ble_eq_true rfl⟩) [0, 1, 2, 3, 4, 5, 6, 7] [] [0, 1, 2, 3, 4, 5, 6, 7] ([]) rfl rfl (fun _ => rfl) (by decide) (by decide) 0 rfl rfl rfl hl.1 rfl (Nat.le_of_ble_eq_true rfl) ⟨Nat.zero_le _, Nat.zero_le _⟩ dX2_takeSideBySide_67 (fun V9 H locs hw_10 hP hD hS => ?_)
              try dsimp only at hw_10 hP hD
              have R3 : RepS (tw f sl m (w + 1)) V9 := by rw [← tw_s hg (by omega) hr2]; exact hw_10
              refine lv_iinc (v := (nI (w + 1))) (lv' := [(4, .int (nI (w + 1))), (3, .int (nI ((sl + m) - 1))), (2, .int (nI sl)), (0, .ref (a 0)), (1, .int (nI m))]) hx hb dX2_takeSideBySide_70 hl (k := 0) rfl (n_inc1 _) (by decide) rfl (fun ls hl => ?_)
              refine lv_goto (tgt := 48) hx hb dX2_takeSideBySide_73 (by decide) ?_
              exact ih48 (w + 1) (tw f sl m (w + 1)) V9 _ _ _ (by omega) (rfl) (R3) (by omega) hP hD hS (lv_sub hl [0, 1, 2, 3, 4] rfl)
        exact LP48 _ 0 (tw f sl m 0) V_7 _ _ _ (by omega) (rfl) (R0) (Nat.lt_succ_self _) hP hD hS (lv_sub hl [0, 1, 2, 3, 4] rfl)
      · skip
        exfalso
        exact ne9 (by omega) c18
  · skip
    replace c4 : (bI (inB v (nI 1) (nI 64))) = nI 0 := c4
    refine lv_iconst (v := (-1)) hx hb dX2_takeSideBySide_7 (by decide) ?_
    exact RETN _ _ (-1) V _ _ dX2_takeSideBySide_8 (rfl) (by rw [trA_n (bI_cf c4)]; exact ⟨rfl, R⟩) hP hD hS
set_option maxHeartbeats 4000000 in
set_option maxRecDepth 100000 in
theorem c_X2_giveBackRange {l : Launch} {D : va_G} {cI cG cC cR : ClassId} {a : Nat → Nat} {f : Nat → Int32} {V : Nat → Nat → Int32} {va vb : Int32} (R : RepS f V) (hB : BInv f) (hz : BZ f) (hO : Own f) : CtI l yX2_giveBackRange wsX2_giveBackRange { frames := 4, cells := 0, slots := 0, locals := 93 } D (TY cI cG cC cR) [.ref (a 0), .int va, .int vb] (SW a cI cG V) (fun (u : Nat → Nat → Int32) => SW a cI cG u) (fun (r : Int32) (u : Nat → Nat → Int32) => r = (gbA f va vb).1 ∧ RepS (gbA f va vb).2 u) := by
  refine CtI.of (cc := cX2_giveBackRange) (maxL := 7) (ty := .int) (by decide) rfl (Nat.le_of_ble_eq_true rfl) ?_
  intro P0 e0 s0 m0 a0 b0 t0 c0 A0 Q0 ls F hK hP hD hA RETN hl
  obtain ⟨hx, hb, hml, hown, hts⟩ := id F
  have hS : va_S A0 s0.heap s0.heap [] := va_S.rf
  have hl : lv_has ls 7 [(0, .ref (a 0)), (1, .int va), (2, .int vb)] := hl
  have lk11 := hts (.fieldLink RX2 11 "SlotMaps$Slots" "bits" "[[I") (by decide +kernel)
  have hI2 : ∀ w ∈ u_ws RX2 TX2 5, w ∈ wsX2_giveBackRange := by decide +kernel
  refine lv_iload_n hx hb dX2_giveBackRange_0 rfl (lv_at hl 1 rfl) ?_
  refine lv_if_lt (tgt := 16) hx hb dX2_giveBackRange_1 (by decide) (fun c1 => ?_) (fun c1 => ?_)
  · skip
    refine lv_iconst (v := (-1)) hx hb dX2_giveBackRange_16 (by decide) ?_
    exact RETN _ _ (-1) V _ _ dX2_giveBackRange_17 (rfl) (by first | (rw [gbA_n (Or.inl (inB_f1 c1))]; exact ⟨rfl, R⟩) | (rw [gbA_n (Or.inr (inB_e (b := 319) (by decide) c8))]; exact ⟨rfl, R⟩) | (rw [gbA_n (Or.inr (inB_f1 (by rw [Int32.lt_iff_toInt_lt]; rw [Int32.le_iff_toInt_le] at c13; omega)))]; exact ⟨rfl, R⟩)) hP hD hS
  · skip
    refine lv_iload_n hx hb dX2_giveBackRange_4 rfl (lv_at hl 2 rfl) ?_
    refine lv_sipush (v := (nI 320)) hx hb dX2_giveBackRange_5 (by decide) ?_
    refine lv_icmp_ge (tgt := 16) hx hb dX2_giveBackRange_8 (by decide) (fun c8 => ?_) (fun c8 => ?_)
    · skip
      refine lv_iconst (v := (-1)) hx hb dX2_giveBackRange_16 (by decide) ?_
      exact RETN _ _ (-1) V _ _ dX2_giveBackRange_17 (rfl) (by first | (rw [gbA_n (Or.inl (inB_f1 c1))]; exact ⟨rfl, R⟩) | (rw [gbA_n (Or.inr (inB_e (b := 319) (by decide) c8))]; exact ⟨rfl, R⟩) | (rw [gbA_n (Or.inr (inB_f1 (by rw [Int32.lt_iff_toInt_lt]; rw [Int32.le_iff_toInt_le] at c13; omega)))]; exact ⟨rfl, R⟩)) hP hD hS
    · skip
      refine lv_iload_n hx hb dX2_giveBackRange_11 rfl (lv_at hl 1 rfl) ?_
      refine lv_iload_n hx hb dX2_giveBackRange_12 rfl (lv_at hl 2 rfl) ?_
      refine lv_icmp_le (tgt := 18) hx hb dX2_giveBackRange_13 (by decide) (fun c13 => ?_) (fun c13 => ?_)
      · skip
        obtain ⟨aa, b2, rfl, rfl, hab, hb2⟩ := gb_in c1 c8 c13
        refine lv_iconst (v := (nI 0)) hx hb dX2_giveBackRange_18 (by decide) ?_
        refine lv_istore_n (lv' := [(3, .int (nI 0)), (0, .ref (a 0)), (1, .int (nI aa)), (2, .int (nI b2))]) hx hb dX2_giveBackRange_19 rfl hl (by decide) rfl (fun ls hl => ?_)
        refine lv_iconst (v := (nI 0)) hx hb dX2_giveBackRange_20 (by decide) ?_
        refine lv_istore (lv' := [(4, .int (nI 0)), (3, .int (nI 0)), (0, .ref (a 0)), (1, .int (nI aa)), (2, .int (nI b2))]) hx hb dX2_giveBackRange_21 hl (by decide) rfl (fun ls hl => ?_)
        have LP23 : ∀ (nn : Nat) (w : Nat) (n : Nat) (g : Nat → Int32) (VV : Nat → Nat → Int32) (H : Heap) (locs : List Loc) (ls : Array Slot), (w ≤ 10) → (n = fb_sm (fun w => fb_ct (fun i => gbP f aa (b2 + 1 - aa) (32 * w + i)) 32) w) → (g = gw f aa (b2 + 1 - aa) w) → (RepS g VV) → 10 - w < nn → va_P D vwCl (SW a cI cG VV) H → va_D A0 (SW a cI cG VV) → va_S A0 s0.heap H locs → lv_has ls 7 [(4, .int (nI w)), (3, .int (nI n)), (0, .ref (a 0)), (1, .int (nI aa)), (2, .int (nI b2))] → W P0 l e0 { frames := 4, cells := 0, slots := 0, locals := 93 } s0 m0 a0 b0 t0 c0 H locs 0 0 Q0 (F0 m0 23 ls []) := by
          intro nn
          induction nn with
          | zero => intro w n g VV H locs ls hw hn hg R1 hmu; exact absurd hmu (Nat.not_lt_zero _)
          | succ nn ih23 =>
            intro w n g VV H locs ls hw hn hg R1 hmu23 hP hD hS hl
            have hnl : n ≤ 320 := by rw [hn]; exact Nat.le_trans (fb_sm_bound (c := 32) (fun k _ => fb_ct_le _ _)) (Nat.le_trans (Nat.mul_le_mul_right 32 hw) (by decide))
            refine lv_iload hx hb dX2_giveBackRange_23 (lv_at hl 0 rfl) ?_
            refine lv_bipush (v := (nI 10)) hx hb dX2_giveBackRange_25 (by decide) ?_
            refine lv_icmp_ge (tgt := 99) hx hb dX2_giveBackRange_27 (by decide) (fun c27 => ?_) (fun c27 => ?_)
            · skip
              replace c27 : 10 ≤ w := by rw [nI_leI (by omega) (by omega)] at c27; exact c27
              refine lv_iload_n hx hb dX2_giveBackRange_99 rfl (lv_at hl 1 rfl) ?_
              refine lv_if_ne (tgt := 108) hx hb dX2_giveBackRange_100 (by decide) (fun c100 => ?_) (fun c100 => ?_)
              · skip
                replace c100 : ¬ n = 0 := by rw [show (0 : Int32) = nI 0 from rfl, nI_eq (by omega) (by omega)] at c100; exact c100
                refine lv_iload_n hx hb dX2_giveBackRange_108 rfl (lv_at hl 1 rfl) ?_
                have ew : w = 10 := by omega
                rw [ew] at hn hg
                rw [gb_count (by omega)] at hn
                rw [gw_10] at hg
                have eA : gbA f (nI aa) (nI b2) = (if gbN f aa (b2 + 1 - aa) = 0 then -2 else nI (gbN f aa (b2 + 1 - aa)), gbF f aa (b2 + 1 - aa)) := by have q := gbA_s (f := f) (a := aa) (n := b2 + 1 - aa) (by omega) (by omega); rw [show aa + (b2 + 1 - aa) - 1 = b2 by omega] at q; exact q
                exact RETN _ _ (nI n) VV _ _ dX2_giveBackRange_109 (rfl) (by rw [eA, ← hn, ← hg]; exact ⟨by first | rw [if_neg c100] | rw [if_pos (by omega)], R1⟩) hP hD hS
              · skip
                replace c100 : n = 0 := by rw [show (0 : Int32) = nI 0 from rfl, nI_eq (by omega) (by omega)] at c100; exact c100
                refine lv_bipush (v := (-2)) hx hb dX2_giveBackRange_103 (by decide) ?_
                refine lv_goto (tgt := 109) hx hb dX2_giveBackRange_105 (by decide) ?_
                have ew : w = 10 := by omega
                rw [ew] at hn hg
                rw [gb_count (by omega)] at hn
                rw [gw_10] at hg
                have eA : gbA f (nI aa) (nI b2) = (if gbN f aa (b2 + 1 - aa) = 0 then -2 else nI (gbN f aa (b2 + 1 - aa)), gbF f aa (b2 + 1 - aa)) := by have q := gbA_s (f := f) (a := aa) (n := b2 + 1 - aa) (by omega) (by omega); rw [show aa + (b2 + 1 - aa) - 1 = b2 by omega] at q; exact q
                exact RETN _ _ (-2) VV _ _ dX2_giveBackRange_109 (rfl) (by rw [eA, ← hn, ← hg]; exact ⟨by first | rw [if_neg c100] | rw [if_pos (by omega)], R1⟩) hP hD hS
            · skip
              replace c27 : ¬ (10 ≤ w) := by rw [nI_leI (by omega) (by omega)] at c27; exact c27
              have hkg : keepB f g := by rw [hg]; exact keepB.bec
              refine lv_aload_n hx hb dX2_giveBackRange_30 rfl (lv_at hl 2 rfl) ?_
              refine va_get (D := D) (ci := 2) (v := .ref (a 1)) (C := RX2) (T := TX2) (N := 5) hx hb hts hI2 hown hK.1 hP 0 rfl rfl 0 (by decide) lk11 (fun _ h9 => h9) rfl dX2_giveBackRange_31 ?_
              refine lv_iconst (v := (nI 1)) hx hb dX2_giveBackRange_34 (by decide) ?_
              refine n_aald (b := a 5) hx hb hK hP 1 1 rfl rfl (by decide) (by decide) rfl dX2_giveBackRange_35 ?_
              refine lv_iload hx hb dX2_giveBackRange_36 (lv_at hl 0 rfl) ?_
              refine n_iald hx hb hK hP 5 0 rfl rfl (by decide) (by omega) dX2_giveBackRange_38 ?_
              refine lv_iload hx hb dX2_giveBackRange_39 (lv_at hl 0 rfl) ?_
              refine lv_iload_n hx hb dX2_giveBackRange_41 rfl (lv_at hl 3 rfl) ?_
              refine lv_iload_n hx hb dX2_giveBackRange_42 rfl (lv_at hl 4 rfl) ?_
              refine n_as (x' := (dn (b2 + 1))) ((dn_s b2).symm) ?_
              refine cl_N0 (As := [.int (nI w), .int (nI aa), .int (dn (b2 + 1))]) (rest := [.int ((VV 1) w)]) F hK hA hP hD hS (c_X3_rangeBits (by omega) (by omega) (by omega)) (⟨va_cnB 3 hts gX2_giveBackRange_X3_rangeBits_n73 rfl rfl rfl (hK.2 (.methodLinkNest RX2 73 yX3_rangeBits RX3) (by decide +kernel)) (hts (.initialized RX3) (by decide +kernel)) (by decide +kernel) ⟨Nat.le_of_ble_eq_true rfl, Nat.le_of_ble_eq_true rfl⟩, hts (.static yX3_rangeBits) (by decide +kernel), trivial⟩) rfl hl.1 rfl (Nat.le_of_ble_eq_true rfl) ⟨Nat.zero_le _, Nat.zero_le _⟩ dX2_giveBackRange_43 (fun r1 H locs hw_2 hP hS => ?_)
              try dsimp only at hw_2
              have hr1 := hw_2
              refine lv_iand hx hb dX2_giveBackRange_46 ?_
              refine lv_istore (lv' := [(5, .int (((VV 1) w) &&& r1)), (4, .int (nI w)), (3, .int (nI n)), (0, .ref (a 0)), (1, .int (nI aa)), (2, .int (nI b2))]) hx hb dX2_giveBackRange_47 hl (by decide) rfl (fun ls hl => ?_)
              refine lv_iload hx hb dX2_giveBackRange_49 (lv_at hl 0 rfl) ?_
              refine lv_aload_n hx hb dX2_giveBackRange_51 rfl (lv_at hl 3 rfl) ?_
              refine lv_iload hx hb dX2_giveBackRange_52 (lv_at hl 1 rfl) ?_
              refine cl_Vi (b := (a 0)) (As := [.int (nI w)]) (rest := [.int (((VV 1) w) &&& r1)]) (wc := SW a cI cG VV) (wsN := fun (_ : Unit) => SW a cI cG VV) F hK hA hP hD hS (c_X2_ownedBits R1.2.2.2 (hkg.inv hB) (BZ_keep hkg hz) (by omega)) (cwV 1 hts gX2_giveBackRange_X2_ownedBits rfl rfl rfl (by decide +kernel) ⟨Nat.le_of_ble_eq_true rfl, Nat.le_of_ble_eq_true rfl⟩) [0, 1, 2, 3, 4, 5, 6, 7] [] [0, 1, 2, 3, 4, 5, 6, 7] ([]) rfl rfl (fun _ => rfl) (by decide) (by decide) 0 rfl rfl rfl hl.1 rfl (Nat.le_of_ble_eq_true rfl) ⟨Nat.zero_le _, Nat.zero_le _⟩ dX2_giveBackRange_54 (fun r2 _ H locs hw_3 hP hD hS => ?_)
              try dsimp only at hw_3 hP hD
              have hr2 := hw_3
              have hu := gb_used (n := b2 + 1 - aa) hg (by omega) R1.1 hr1 (by omega)
              have hm1 := gb_m1 hg hO hkg (by omega) hu hr2
              have hm2 := gb_m2 hg hO hkg (by omega) hu hr2
              refine lv_iand hx hb dX2_giveBackRange_57 ?_
              refine lv_istore (lv' := [(6, .int ((((VV 1) w) &&& r1) &&& r2)), (5, .int (((VV 1) w) &&& r1)), (4, .int (nI w)), (3, .int (nI n)), (0, .ref (a 0)), (1, .int (nI aa)), (2, .int (nI b2))]) hx hb dX2_giveBackRange_58 hl (by decide) rfl (fun ls hl => ?_)
              refine lv_aload_n hx hb dX2_giveBackRange_60 rfl (lv_at hl 4 rfl) ?_
              refine lv_iload hx hb dX2_giveBackRange_61 (lv_at hl 2 rfl) ?_
              refine lv_iload hx hb dX2_giveBackRange_63 (lv_at hl 1 rfl) ?_
              refine lv_iload hx hb dX2_giveBackRange_65 (lv_at hl 0 rfl) ?_
              refine lv_iconst (v := (-1)) hx hb dX2_giveBackRange_67 (by decide) ?_
              refine lv_ixor hx hb dX2_giveBackRange_68 ?_
              refine lv_iand hx hb dX2_giveBackRange_69 ?_
              refine lv_iconst (v := (nI 1)) hx hb dX2_giveBackRange_70 (by decide) ?_
              refine lv_iconst (v := (nI 2)) hx hb dX2_giveBackRange_71 (by decide) ?_
              refine cl_Vv (b := (a 0)) (As := [.int (nI w), .int ((((VV 1) w) &&& r1) &&& (((((VV 1) w) &&& r1) &&& r2) ^^^ (-1))), .int (nI 1), .int (nI 2)]) (rest := []) (wc := SW a cI cG VV) (wsN := fun (V8 : Nat → Nat → Int32) => SW a cI cG V8) F hK hA hP hD hS (c_X2_change R1 (by omega) (by decide) (by decide) (by decide) (gb_k1 hg (by omega) hm1)) (cwV 4 hts gX2_giveBackRange_X2_change rfl rfl rfl (by decide +kernel) ⟨Nat.le_of_ble_eq_true rfl, Nat.le_of_ble_eq_true rfl⟩) [0, 1, 2, 3, 4, 5, 6, 7] [] [0, 1, 2, 3, 4, 5, 6, 7] ([]) rfl rfl (fun _ => rfl) (by decide) (by decide) 0 rfl rfl rfl hl.1 rfl (Nat.le_of_ble_eq_true rfl) ⟨Nat.zero_le _, Nat.zero_le _⟩ dX2_giveBackRange_72 (fun V8 H locs hw_5 hP hD hS => ?_)
              try dsimp only at hw_5 hP hD
              have R2 := hw_5
              refine lv_aload_n hx hb dX2_giveBackRange_75 rfl (lv_at hl 4 rfl) ?_
              refine lv_iload hx hb dX2_giveBackRange_76 (lv_at hl 2 rfl) ?_
              refine lv_iload hx hb dX2_giveBackRange_78 (lv_at hl 0 rfl) ?_
              refine lv_iconst (v := (nI 1)) hx hb dX2_giveBackRange_80 (by decide) ?_
              refine lv_iconst (v := (nI 3)) hx hb dX2_giveBackRange_81 (by decide) ?_
              refine cl_Vv (b := (a 0)) (As := [.int (nI w), .int ((((VV 1) w) &&& r1) &&& r2), .int (nI 1), .int (nI 3)]) (rest := []) (wc := SW a cI cG V8) (wsN := fun (V9 : Nat → Nat → Int32) => SW a cI cG V9) F hK hA hP hD hS (c_X2_change R2 (by omega) (by decide) (by decide) (by decide) (gb_k2 hg (by omega) hm1 hm2)) (cwV 4 hts gX2_giveBackRange_X2_change rfl rfl rfl (by decide +kernel) ⟨Nat.le_of_ble_eq_true rfl, Nat.le_of_ble_eq_true rfl⟩) [0, 1, 2, 3, 4, 5, 6, 7] [] [0, 1, 2, 3, 4, 5, 6, 7] ([]) rfl rfl (fun _ => rfl) (by decide) (by decide) 0 rfl rfl rfl hl.1 rfl (Nat.le_of_ble_eq_true rfl) ⟨Nat.zero_le _, Nat.zero_le _⟩ dX2_giveBackRange_82 (fun V9 H locs hw_7 hP hD hS => ?_)
              try dsimp only at hw_7 hP hD
              have R3 : RepS (gw f aa (b2 + 1 - aa) (w + 1)) V9 := by rw [← gw_s (by omega) hm1 hm2, ← hg]; exact hw_7
              refine lv_iload_n hx hb dX2_giveBackRange_85 rfl (lv_at hl 3 rfl) ?_
              refine lv_iload hx hb dX2_giveBackRange_86 (lv_at hl 1 rfl) ?_
              refine cl_S0 (As := [.int (((VV 1) w) &&& r1)]) (rest := [.int (nI n)]) F hK hA hP hD hS (c_J6_bitCount_0f7a4) (va_cwS 1 hts gX2_giveBackRange_J6_bitCount_0f7a4 rfl rfl rfl (by decide +kernel) ⟨Nat.le_of_ble_eq_true rfl, Nat.le_of_ble_eq_true rfl⟩) rfl hl.1 rfl (Nat.le_of_ble_eq_true rfl) ⟨Nat.zero_le _, Nat.zero_le _⟩ dX2_giveBackRange_88 (fun r_9 H locs hw_10 hP hS => ?_)
              try dsimp only at hw_10
              obtain rfl : r_9 = (nI (fb_ct (fun i => gbP f aa (b2 + 1 - aa) (32 * w + i)) 32)) := by rw [hw_10]; exact congrArg nI (pc_of hu)
              refine lv_iadd hx hb dX2_giveBackRange_91 ?_
              refine n_as (x' := nI (n + (fb_ct (fun i => gbP f aa (b2 + 1 - aa) (32 * w + i)) 32))) (nI_add _ _) ?_
              refine lv_istore_n (lv' := [(3, .int (nI (n + (fb_ct (fun i => gbP f aa (b2 + 1 - aa) (32 * w + i)) 32)))), (6, .int ((((VV 1) w) &&& r1) &&& r2)), (5, .int (((VV 1) w) &&& r1)), (4, .int (nI w)), (0, .ref (a 0)), (1, .int (nI aa)), (2, .int (nI b2))]) hx hb dX2_giveBackRange_92 rfl hl (by decide) rfl (fun ls hl => ?_)
              refine lv_iinc (v := (nI (w + 1))) (lv' := [(4, .int (nI (w + 1))), (3, .int (nI (n + (fb_ct (fun i => gbP f aa (b2 + 1 - aa) (32 * w + i)) 32)))), (6, .int ((((VV 1) w) &&& r1) &&& r2)), (5, .int (((VV 1) w) &&& r1)), (0, .ref (a 0)), (1, .int (nI aa)), (2, .int (nI b2))]) hx hb dX2_giveBackRange_93 hl (k := 3) rfl (n_inc1 _) (by decide) rfl (fun ls hl => ?_)
              refine lv_goto (tgt := 23) hx hb dX2_giveBackRange_96 (by decide) ?_
              exact ih23 (w + 1) (n + (fb_ct (fun i => gbP f aa (b2 + 1 - aa) (32 * w + i)) 32)) (gw f aa (b2 + 1 - aa) (w + 1)) V9 _ _ _ (by omega) (by rw [fb_sm_succ, ← hn]) (rfl) (R3) (by omega) hP hD hS (lv_sub hl [0, 1, 4, 5, 6] rfl)
        exact LP23 _ 0 0 f V _ _ _ (by omega) (rfl) (gw_0 f aa _) (R) (Nat.lt_succ_self _) hP hD hS (lv_sub hl [0, 1, 2, 3, 4] rfl)
      · skip
        refine lv_iconst (v := (-1)) hx hb dX2_giveBackRange_16 (by decide) ?_
        exact RETN _ _ (-1) V _ _ dX2_giveBackRange_17 (rfl) (by first | (rw [gbA_n (Or.inl (inB_f1 c1))]; exact ⟨rfl, R⟩) | (rw [gbA_n (Or.inr (inB_e (b := 319) (by decide) c8))]; exact ⟨rfl, R⟩) | (rw [gbA_n (Or.inr (inB_f1 (by rw [Int32.lt_iff_toInt_lt]; rw [Int32.le_iff_toInt_le] at c13; omega)))]; exact ⟨rfl, R⟩)) hP hD hS
set_option maxHeartbeats 4000000 in
set_option maxRecDepth 100000 in
theorem c_X2_placeStart {l : Launch} {D : va_G} {cI cG cC cR : ClassId} {a : Nat → Nat} {f : Nat → Int32} {V : Nat → Nat → Int32} {z : Nat} (R : RepK f V) (hz : okz z) : CtI l yX2_placeStart wsX2_placeStart { frames := 2, cells := 0, slots := 0, locals := 48 } D (TY cI cG cC cR) [.ref (a 0), .int (nI z)] (SW a cI cG V) (fun (_ : Unit) => SW a cI cG V) (fun (r : Int32) (_ : Unit) => r = oI (pl f z)) := by
  refine CtI.of (cc := cX2_placeStart) (maxL := 5) (ty := .int) (by decide) rfl (Nat.le_of_ble_eq_true rfl) ?_
  intro P0 e0 s0 m0 a0 b0 t0 c0 A0 Q0 ls F hK hP hD hA RETN hl
  obtain ⟨hx, hb, hml, hown, hts⟩ := id F
  have hS : va_S A0 s0.heap s0.heap [] := va_S.rf
  have hl : lv_has ls 5 [(0, .ref (a 0)), (1, .int (nI z))] := hl
  have lk11 := hts (.fieldLink RX2 11 "SlotMaps$Slots" "bits" "[[I") (by decide +kernel)
  have hI2 : ∀ w ∈ u_ws RX2 TX2 5, w ∈ wsX2_placeStart := by decide +kernel
  rcases hz with rfl | rfl | rfl | rfl
  ·
    skip
    refine lv_iconst (v := (nI 0)) hx hb dX2_placeStart_0 (by decide) ?_
    refine lv_istore_n (lv' := [(2, .int (nI 0)), (0, .ref (a 0)), (1, .int (nI 4))]) hx hb dX2_placeStart_1 rfl hl (by decide) rfl (fun ls hl => ?_)
    have LP2 : ∀ (nn : Nat) (t : Nat) (H : Heap) (locs : List Loc) (ls : Array Slot), (t ≤ 80) → (ls1 (plq f 4) 80 0 = ls1 (plq f 4) (80 - ((4 * t + 3) / 4)) ((4 * t + 3) / 4)) → 80 - t < nn → va_P D vwCl (SW a cI cG V) H → va_D A0 (SW a cI cG V) → va_S A0 s0.heap H locs → lv_has ls 5 [(2, .int (nI (4 * t))), (0, .ref (a 0)), (1, .int (nI 4))] → W P0 l e0 { frames := 2, cells := 0, slots := 0, locals := 48 } s0 m0 a0 b0 t0 c0 H locs 0 0 Q0 (F0 m0 2 ls []) := by
      intro nn
      induction nn with
      | zero => intro t H locs ls ht ha hmu; exact absurd hmu (Nat.not_lt_zero _)
      | succ nn ih2 =>
        intro t H locs ls ht ha hmu2 hP hD hS hl
        refine lv_iload_n hx hb dX2_placeStart_2 rfl (lv_at hl 0 rfl) ?_
        refine lv_sipush (v := (nI 320)) hx hb dX2_placeStart_3 (by decide) ?_
        refine lv_icmp_ge (tgt := 58) hx hb dX2_placeStart_6 (by decide) (fun c6 => ?_) (fun c6 => ?_)
        · skip
          replace c6 : 320 ≤ (4 * t) := by rw [nI_leI (by omega) (by omega)] at c6; exact c6
          refine lv_bipush (v := (-9)) hx hb dX2_placeStart_58 (by decide) ?_
          exact RETN _ _ (-9) () _ _ dX2_placeStart_60 (rfl) (by unfold pl; rw [show 320 / 4 = 80 from rfl, ha, ls1_end _ (by omega)]; rfl) hP hD hS
        · skip
          replace c6 : ¬ (320 ≤ (4 * t)) := by rw [nI_leI (by omega) (by omega)] at c6; exact c6
          refine lv_iload_n hx hb dX2_placeStart_9 rfl (lv_at hl 0 rfl) ?_
          refine lv_iload_n hx hb dX2_placeStart_10 rfl (lv_at hl 2 rfl) ?_
          refine lv_iconst (v := (nI 1)) hx hb dX2_placeStart_11 (by decide) ?_
          refine lv_isub hx hb dX2_placeStart_12 ?_
          refine n_as (x' := nI 3) (by decide) ?_
          refine lv_iand hx hb dX2_placeStart_13 ?_
          refine n_as (x' := (nI (4 * t % 4))) (by rw [nb_and, show (3 : Nat) = 2 ^ 2 - 1 from rfl, Nat.and_two_pow_sub_one_eq_mod]) ?_
          refine lv_if_ne (tgt := 52) hx hb dX2_placeStart_14 (by decide) (fun c14 => ?_) (fun c14 => ?_)
          · skip
            replace c14 : ¬ (4 * t % 4) = 0 := by rw [show (0 : Int32) = nI 0 from rfl, nI_eq (by omega) (by omega)] at c14; exact c14
            refine lv_iinc (v := (nI (4 * (t + 1)))) (lv' := [(2, .int (nI (4 * (t + 1)))), (0, .ref (a 0)), (1, .int (nI 4))]) hx hb dX2_placeStart_52 hl (k := 0) rfl (n_inc4 _) (by decide) rfl (fun ls hl => ?_)
            refine lv_goto (tgt := 2) hx hb dX2_placeStart_55 (by decide) ?_
            exact ih2 (t + 1) _ _ _ (by omega) (by rw [ha, show (4 * (t + 1) + 3) / 4 = (4 * t + 3) / 4 by omega]) (by omega) hP hD hS (lv_sub hl [0, 1, 2] rfl)
          · skip
            replace c14 : (4 * t % 4) = 0 := by rw [show (0 : Int32) = nI 0 from rfl, nI_eq (by omega) (by omega)] at c14; exact c14
            refine lv_iload_n hx hb dX2_placeStart_17 rfl (lv_at hl 0 rfl) ?_
            refine cl_N0 (As := [.int (nI (4 * t))]) (rest := []) F hK hA hP hD hS (c_X3_wordOf (by omega)) (⟨va_cnB 1 hts gX2_placeStart_X3_wordOf_n70 rfl rfl rfl (hK.2 (.methodLinkNest RX2 70 yX3_wordOf RX3) (by decide +kernel)) (hts (.initialized RX3) (by decide +kernel)) (by decide +kernel) ⟨Nat.le_of_ble_eq_true rfl, Nat.le_of_ble_eq_true rfl⟩, hts (.static yX3_wordOf) (by decide +kernel), trivial⟩) rfl hl.1 rfl (Nat.le_of_ble_eq_true rfl) ⟨Nat.zero_le _, Nat.zero_le _⟩ dX2_placeStart_18 (fun r_1 H locs hw_2 hP hS => ?_)
            try dsimp only at hw_2
            obtain rfl : r_1 = (nI (4 * t / 32)) := hw_2
            refine lv_istore_n (lv' := [(3, .int (nI (4 * t / 32))), (2, .int (nI (4 * t))), (0, .ref (a 0)), (1, .int (nI 4))]) hx hb dX2_placeStart_21 rfl hl (by decide) rfl (fun ls hl => ?_)
            refine lv_iload_n hx hb dX2_placeStart_22 rfl (lv_at hl 0 rfl) ?_
            refine lv_iload_n hx hb dX2_placeStart_23 rfl (lv_at hl 1 rfl) ?_
            refine lv_iload_n hx hb dX2_placeStart_24 rfl (lv_at hl 1 rfl) ?_
            refine lv_iload_n hx hb dX2_placeStart_25 rfl (lv_at hl 3 rfl) ?_
            refine lv_iadd hx hb dX2_placeStart_26 ?_
            refine n_as (x' := nI ((4 * t) + 4)) (nI_add _ _) ?_
            refine lv_iconst (v := (nI 1)) hx hb dX2_placeStart_27 (by decide) ?_
            refine lv_isub hx hb dX2_placeStart_28 ?_
            refine n_as (x' := (dn (4 * t + 4))) (rfl) ?_
            refine cl_N0 (As := [.int (nI (4 * t / 32)), .int (nI (4 * t)), .int (dn (4 * t + 4))]) (rest := []) F hK hA hP hD hS (c_X3_rangeBits (by omega) (by omega) (by omega)) (⟨va_cnB 3 hts gX2_placeStart_X3_rangeBits_n73 rfl rfl rfl (hK.2 (.methodLinkNest RX2 73 yX3_rangeBits RX3) (by decide +kernel)) (hts (.initialized RX3) (by decide +kernel)) (by decide +kernel) ⟨Nat.le_of_ble_eq_true rfl, Nat.le_of_ble_eq_true rfl⟩, hts (.static yX3_rangeBits) (by decide +kernel), trivial⟩) rfl hl.1 rfl (Nat.le_of_ble_eq_true rfl) ⟨Nat.zero_le _, Nat.zero_le _⟩ dX2_placeStart_29 (fun rr H locs hw_4 hP hS => ?_)
            try dsimp only at hw_4
            have hrr := hw_4
            refine lv_istore (lv' := [(4, .int rr), (3, .int (nI (4 * t / 32))), (2, .int (nI (4 * t))), (0, .ref (a 0)), (1, .int (nI 4))]) hx hb dX2_placeStart_32 hl (by decide) rfl (fun ls hl => ?_)
            refine lv_aload_n hx hb dX2_placeStart_34 rfl (lv_at hl 3 rfl) ?_
            refine va_get (D := D) (ci := 2) (v := .ref (a 1)) (C := RX2) (T := TX2) (N := 5) hx hb hts hI2 hown hK.1 hP 0 rfl rfl 0 (by decide) lk11 (fun _ h9 => h9) rfl dX2_placeStart_35 ?_
            refine lv_iconst (v := (nI 0)) hx hb dX2_placeStart_38 (by decide) ?_
            refine n_aald (b := a 4) hx hb hK hP 1 1 rfl rfl (by decide) (by decide) rfl dX2_placeStart_39 ?_
            refine lv_iload_n hx hb dX2_placeStart_40 rfl (lv_at hl 1 rfl) ?_
            refine n_iald hx hb hK hP 4 0 rfl rfl (by decide) (by omega) dX2_placeStart_41 ?_
            refine lv_iload hx hb dX2_placeStart_42 (lv_at hl 0 rfl) ?_
            have hpl := rep_pl R (p := 4 * t) (z := 4) (q := (4 * t + 3) / 4) (m := rr) (by omega) (by unfold okz; omega) (by omega) hrr
            refine lv_iand hx hb dX2_placeStart_44 ?_
            refine lv_iload hx hb dX2_placeStart_45 (lv_at hl 0 rfl) ?_
            refine lv_icmp_ne (tgt := 52) hx hb dX2_placeStart_47 (by decide) (fun c47 => ?_) (fun c47 => ?_)
            · skip
              refine lv_iinc (v := (nI (4 * (t + 1)))) (lv' := [(2, .int (nI (4 * (t + 1)))), (4, .int rr), (3, .int (nI (4 * t / 32))), (0, .ref (a 0)), (1, .int (nI 4))]) hx hb dX2_placeStart_52 hl (k := 2) rfl (n_inc4 _) (by decide) rfl (fun ls hl => ?_)
              refine lv_goto (tgt := 2) hx hb dX2_placeStart_55 (by decide) ?_
              exact ih2 (t + 1) _ _ _ (by omega) (by rw [ha, ls1_no (by omega) (by rw [← Bool.not_eq_true]; exact fun q => c47 (hpl.mpr q)), show (4 * (t + 1) + 3) / 4 = (4 * t + 3) / 4 + 1 by omega]) (by omega) hP hD hS (lv_sub hl [0, 3, 4] rfl)
            · skip
              refine lv_iload_n hx hb dX2_placeStart_50 rfl (lv_at hl 2 rfl) ?_
              exact RETN _ _ (nI (4 * t)) () _ _ dX2_placeStart_51 (rfl) (by unfold pl; rw [show 320 / 4 = 80 from rfl, ha, ls1_yes (by omega) (hpl.mp c47)]; exact congrArg nI (show 4 * t = 4 * ((4 * t + 3) / 4) by omega)) hP hD hS
    exact LP2 _ 0 _ _ _ (by omega) (rfl) (Nat.lt_succ_self _) hP hD hS (lv_sub hl [0, 1, 2] rfl)
  ·
    skip
    refine lv_iconst (v := (nI 0)) hx hb dX2_placeStart_0 (by decide) ?_
    refine lv_istore_n (lv' := [(2, .int (nI 0)), (0, .ref (a 0)), (1, .int (nI 8))]) hx hb dX2_placeStart_1 rfl hl (by decide) rfl (fun ls hl => ?_)
    have LP2 : ∀ (nn : Nat) (t : Nat) (H : Heap) (locs : List Loc) (ls : Array Slot), (t ≤ 80) → (ls1 (plq f 8) 40 0 = ls1 (plq f 8) (40 - ((4 * t + 7) / 8)) ((4 * t + 7) / 8)) → 80 - t < nn → va_P D vwCl (SW a cI cG V) H → va_D A0 (SW a cI cG V) → va_S A0 s0.heap H locs → lv_has ls 5 [(2, .int (nI (4 * t))), (0, .ref (a 0)), (1, .int (nI 8))] → W P0 l e0 { frames := 2, cells := 0, slots := 0, locals := 48 } s0 m0 a0 b0 t0 c0 H locs 0 0 Q0 (F0 m0 2 ls []) := by
      intro nn
      induction nn with
      | zero => intro t H locs ls ht ha hmu; exact absurd hmu (Nat.not_lt_zero _)
      | succ nn ih2 =>
        intro t H locs ls ht ha hmu2 hP hD hS hl
        refine lv_iload_n hx hb dX2_placeStart_2 rfl (lv_at hl 0 rfl) ?_
        refine lv_sipush (v := (nI 320)) hx hb dX2_placeStart_3 (by decide) ?_
        refine lv_icmp_ge (tgt := 58) hx hb dX2_placeStart_6 (by decide) (fun c6 => ?_) (fun c6 => ?_)
        · skip
          replace c6 : 320 ≤ (4 * t) := by rw [nI_leI (by omega) (by omega)] at c6; exact c6
          refine lv_bipush (v := (-9)) hx hb dX2_placeStart_58 (by decide) ?_
          exact RETN _ _ (-9) () _ _ dX2_placeStart_60 (rfl) (by unfold pl; rw [show 320 / 8 = 40 from rfl, ha, ls1_end _ (by omega)]; rfl) hP hD hS
        · skip
          replace c6 : ¬ (320 ≤ (4 * t)) := by rw [nI_leI (by omega) (by omega)] at c6; exact c6
          refine lv_iload_n hx hb dX2_placeStart_9 rfl (lv_at hl 0 rfl) ?_
          refine lv_iload_n hx hb dX2_placeStart_10 rfl (lv_at hl 2 rfl) ?_
          refine lv_iconst (v := (nI 1)) hx hb dX2_placeStart_11 (by decide) ?_
          refine lv_isub hx hb dX2_placeStart_12 ?_
          refine n_as (x' := nI 7) (by decide) ?_
          refine lv_iand hx hb dX2_placeStart_13 ?_
          refine n_as (x' := (nI (4 * t % 8))) (by rw [nb_and, show (7 : Nat) = 2 ^ 3 - 1 from rfl, Nat.and_two_pow_sub_one_eq_mod]) ?_
          refine lv_if_ne (tgt := 52) hx hb dX2_placeStart_14 (by decide) (fun c14 => ?_) (fun c14 => ?_)
          · skip
            replace c14 : ¬ (4 * t % 8) = 0 := by rw [show (0 : Int32) = nI 0 from rfl, nI_eq (by omega) (by omega)] at c14; exact c14
            refine lv_iinc (v := (nI (4 * (t + 1)))) (lv' := [(2, .int (nI (4 * (t + 1)))), (0, .ref (a 0)), (1, .int (nI 8))]) hx hb dX2_placeStart_52 hl (k := 0) rfl (n_inc4 _) (by decide) rfl (fun ls hl => ?_)
            refine lv_goto (tgt := 2) hx hb dX2_placeStart_55 (by decide) ?_
            exact ih2 (t + 1) _ _ _ (by omega) (by rw [ha, show (4 * (t + 1) + 7) / 8 = (4 * t + 7) / 8 by omega]) (by omega) hP hD hS (lv_sub hl [0, 1, 2] rfl)
          · skip
            replace c14 : (4 * t % 8) = 0 := by rw [show (0 : Int32) = nI 0 from rfl, nI_eq (by omega) (by omega)] at c14; exact c14
            refine lv_iload_n hx hb dX2_placeStart_17 rfl (lv_at hl 0 rfl) ?_
            refine cl_N0 (As := [.int (nI (4 * t))]) (rest := []) F hK hA hP hD hS (c_X3_wordOf (by omega)) (⟨va_cnB 1 hts gX2_placeStart_X3_wordOf_n70 rfl rfl rfl (hK.2 (.methodLinkNest RX2 70 yX3_wordOf RX3) (by decide +kernel)) (hts (.initialized RX3) (by decide +kernel)) (by decide +kernel) ⟨Nat.le_of_ble_eq_true rfl, Nat.le_of_ble_eq_true rfl⟩, hts (.static yX3_wordOf) (by decide +kernel), trivial⟩) rfl hl.1 rfl (Nat.le_of_ble_eq_true rfl) ⟨Nat.zero_le _, Nat.zero_le _⟩ dX2_placeStart_18 (fun r_5 H locs hw_6 hP hS => ?_)
            try dsimp only at hw_6
            obtain rfl : r_5 = (nI (4 * t / 32)) := hw_6
            refine lv_istore_n (lv' := [(3, .int (nI (4 * t / 32))), (2, .int (nI (4 * t))), (0, .ref (a 0)), (1, .int (nI 8))]) hx hb dX2_placeStart_21 rfl hl (by decide) rfl (fun ls hl => ?_)
            refine lv_iload_n hx hb dX2_placeStart_22 rfl (lv_at hl 0 rfl) ?_
            refine lv_iload_n hx hb dX2_placeStart_23 rfl (lv_at hl 1 rfl) ?_
            refine lv_iload_n hx hb dX2_placeStart_24 rfl (lv_at hl 1 rfl) ?_
            refine lv_iload_n hx hb dX2_placeStart_25 rfl (lv_at hl 3 rfl) ?_
            refine lv_iadd hx hb dX2_placeStart_26 ?_
            refine n_as (x' := nI ((4 * t) + 8)) (nI_add _ _) ?_
            refine lv_iconst (v := (nI 1)) hx hb dX2_placeStart_27 (by decide) ?_
            refine lv_isub hx hb dX2_placeStart_28 ?_
            refine n_as (x' := (dn (4 * t + 8))) (rfl) ?_
            refine cl_N0 (As := [.int (nI (4 * t / 32)), .int (nI (4 * t)), .int (dn (4 * t + 8))]) (rest := []) F hK hA hP hD hS (c_X3_rangeBits (by omega) (by omega) (by omega)) (⟨va_cnB 3 hts gX2_placeStart_X3_rangeBits_n73 rfl rfl rfl (hK.2 (.methodLinkNest RX2 73 yX3_rangeBits RX3) (by decide +kernel)) (hts (.initialized RX3) (by decide +kernel)) (by decide +kernel) ⟨Nat.le_of_ble_eq_true rfl, Nat.le_of_ble_eq_true rfl⟩, hts (.static yX3_rangeBits) (by decide +kernel), trivial⟩) rfl hl.1 rfl (Nat.le_of_ble_eq_true rfl) ⟨Nat.zero_le _, Nat.zero_le _⟩ dX2_placeStart_29 (fun rr H locs hw_8 hP hS => ?_)
            try dsimp only at hw_8
            have hrr := hw_8
            refine lv_istore (lv' := [(4, .int rr), (3, .int (nI (4 * t / 32))), (2, .int (nI (4 * t))), (0, .ref (a 0)), (1, .int (nI 8))]) hx hb dX2_placeStart_32 hl (by decide) rfl (fun ls hl => ?_)
            refine lv_aload_n hx hb dX2_placeStart_34 rfl (lv_at hl 3 rfl) ?_
            refine va_get (D := D) (ci := 2) (v := .ref (a 1)) (C := RX2) (T := TX2) (N := 5) hx hb hts hI2 hown hK.1 hP 0 rfl rfl 0 (by decide) lk11 (fun _ h9 => h9) rfl dX2_placeStart_35 ?_
            refine lv_iconst (v := (nI 0)) hx hb dX2_placeStart_38 (by decide) ?_
            refine n_aald (b := a 4) hx hb hK hP 1 1 rfl rfl (by decide) (by decide) rfl dX2_placeStart_39 ?_
            refine lv_iload_n hx hb dX2_placeStart_40 rfl (lv_at hl 1 rfl) ?_
            refine n_iald hx hb hK hP 4 0 rfl rfl (by decide) (by omega) dX2_placeStart_41 ?_
            refine lv_iload hx hb dX2_placeStart_42 (lv_at hl 0 rfl) ?_
            have hpl := rep_pl R (p := 4 * t) (z := 8) (q := (4 * t + 7) / 8) (m := rr) (by omega) (by unfold okz; omega) (by omega) hrr
            refine lv_iand hx hb dX2_placeStart_44 ?_
            refine lv_iload hx hb dX2_placeStart_45 (lv_at hl 0 rfl) ?_
            refine lv_icmp_ne (tgt := 52) hx hb dX2_placeStart_47 (by decide) (fun c47 => ?_) (fun c47 => ?_)
            · skip
              refine lv_iinc (v := (nI (4 * (t + 1)))) (lv' := [(2, .int (nI (4 * (t + 1)))), (4, .int rr), (3, .int (nI (4 * t / 32))), (0, .ref (a 0)), (1, .int (nI 8))]) hx hb dX2_placeStart_52 hl (k := 2) rfl (n_inc4 _) (by decide) rfl (fun ls hl => ?_)
              refine lv_goto (tgt := 2) hx hb dX2_placeStart_55 (by decide) ?_
              exact ih2 (t + 1) _ _ _ (by omega) (by rw [ha, ls1_no (by omega) (by rw [← Bool.not_eq_true]; exact fun q => c47 (hpl.mpr q)), show (4 * (t + 1) + 7) / 8 = (4 * t + 7) / 8 + 1 by omega]) (by omega) hP hD hS (lv_sub hl [0, 3, 4] rfl)
            · skip
              refine lv_iload_n hx hb dX2_placeStart_50 rfl (lv_at hl 2 rfl) ?_
              exact RETN _ _ (nI (4 * t)) () _ _ dX2_placeStart_51 (rfl) (by unfold pl; rw [show 320 / 8 = 40 from rfl, ha, ls1_yes (by omega) (hpl.mp c47)]; exact congrArg nI (show 4 * t = 8 * ((4 * t + 7) / 8) by omega)) hP hD hS
    exact LP2 _ 0 _ _ _ (by omega) (rfl) (Nat.lt_succ_self _) hP hD hS (lv_sub hl [0, 1, 2] rfl)
  ·
    skip
    refine lv_iconst (v := (nI 0)) hx hb dX2_placeStart_0 (by decide) ?_
    refine lv_istore_n (lv' := [(2, .int (nI 0)), (0, .ref (a 0)), (1, .int (nI 16))]) hx hb dX2_placeStart_1 rfl hl (by decide) rfl (fun ls hl => ?_)
    have LP2 : ∀ (nn : Nat) (t : Nat) (H : Heap) (locs : List Loc) (ls : Array Slot), (t ≤ 80) → (ls1 (plq f 16) 20 0 = ls1 (plq f 16) (20 - ((4 * t + 15) / 16)) ((4 * t + 15) / 16)) → 80 - t < nn → va_P D vwCl (SW a cI cG V) H → va_D A0 (SW a cI cG V) → va_S A0 s0.heap H locs → lv_has ls 5 [(2, .int (nI (4 * t))), (0, .ref (a 0)), (1, .int (nI 16))] → W P0 l e0 { frames := 2, cells := 0, slots := 0, locals := 48 } s0 m0 a0 b0 t0 c0 H locs 0 0 Q0 (F0 m0 2 ls []) := by
      intro nn
      induction nn with
      | zero => intro t H locs ls ht ha hmu; exact absurd hmu (Nat.not_lt_zero _)
      | succ nn ih2 =>
        intro t H locs ls ht ha hmu2 hP hD hS hl
        refine lv_iload_n hx hb dX2_placeStart_2 rfl (lv_at hl 0 rfl) ?_
        refine lv_sipush (v := (nI 320)) hx hb dX2_placeStart_3 (by decide) ?_
        refine lv_icmp_ge (tgt := 58) hx hb dX2_placeStart_6 (by decide) (fun c6 => ?_) (fun c6 => ?_)
        · skip
          replace c6 : 320 ≤ (4 * t) := by rw [nI_leI (by omega) (by omega)] at c6; exact c6
          refine lv_bipush (v := (-9)) hx hb dX2_placeStart_58 (by decide) ?_
          exact RETN _ _ (-9) () _ _ dX2_placeStart_60 (rfl) (by unfold pl; rw [show 320 / 16 = 20 from rfl, ha, ls1_end _ (by omega)]; rfl) hP hD hS
        · skip
          replace c6 : ¬ (320 ≤ (4 * t)) := by rw [nI_leI (by omega) (by omega)] at c6; exact c6
          refine lv_iload_n hx hb dX2_placeStart_9 rfl (lv_at hl 0 rfl) ?_
          refine lv_iload_n hx hb dX2_placeStart_10 rfl (lv_at hl 2 rfl) ?_
          refine lv_iconst (v := (nI 1)) hx hb dX2_placeStart_11 (by decide) ?_
          refine lv_isub hx hb dX2_placeStart_12 ?_
          refine n_as (x' := nI 15) (by decide) ?_
          refine lv_iand hx hb dX2_placeStart_13 ?_
          refine n_as (x' := (nI (4 * t % 16))) (by rw [nb_and, show (15 : Nat) = 2 ^ 4 - 1 from rfl, Nat.and_two_pow_sub_one_eq_mod]) ?_
          refine lv_if_ne (tgt := 52) hx hb dX2_placeStart_14 (by decide) (fun c14 => ?_) (fun c14 => ?_)
          · skip
            replace c14 : ¬ (4 * t % 16) = 0 := by rw [show (0 : Int32) = nI 0 from rfl, nI_eq (by omega) (by omega)] at c14; exact c14
            refine lv_iinc (v := (nI (4 * (t + 1)))) (lv' := [(2, .int (nI (4 * (t + 1)))), (0, .ref (a 0)), (1, .int (nI 16))]) hx hb dX2_placeStart_52 hl (k := 0) rfl (n_inc4 _) (by decide) rfl (fun ls hl => ?_)
            refine lv_goto (tgt := 2) hx hb dX2_placeStart_55 (by decide) ?_
            exact ih2 (t + 1) _ _ _ (by omega) (by rw [ha, show (4 * (t + 1) + 15) / 16 = (4 * t + 15) / 16 by omega]) (by omega) hP hD hS (lv_sub hl [0, 1, 2] rfl)
          · skip
            replace c14 : (4 * t % 16) = 0 := by rw [show (0 : Int32) = nI 0 from rfl, nI_eq (by omega) (by omega)] at c14; exact c14
            refine lv_iload_n hx hb dX2_placeStart_17 rfl (lv_at hl 0 rfl) ?_
            refine cl_N0 (As := [.int (nI (4 * t))]) (rest := []) F hK hA hP hD hS (c_X3_wordOf (by omega)) (⟨va_cnB 1 hts gX2_placeStart_X3_wordOf_n70 rfl rfl rfl (hK.2 (.methodLinkNest RX2 70 yX3_wordOf RX3) (by decide +kernel)) (hts (.initialized RX3) (by decide +kernel)) (by decide +kernel) ⟨Nat.le_of_ble_eq_true rfl, Nat.le_of_ble_eq_true rfl⟩, hts (.static yX3_wordOf) (by decide +kernel), trivial⟩) rfl hl.1 rfl (Nat.le_of_ble_eq_true rfl) ⟨Nat.zero_le _, Nat.zero_le _⟩ dX2_placeStart_18 (fun r_9 H locs hw_10 hP hS => ?_)
            try dsimp only at hw_10
            obtain rfl : r_9 = (nI (4 * t / 32)) := hw_10
            refine lv_istore_n (lv' := [(3, .int (nI (4 * t / 32))), (2, .int (nI (4 * t))), (0, .ref (a 0)), (1, .int (nI 16))]) hx hb dX2_placeStart_21 rfl hl (by decide) rfl (fun ls hl => ?_)
            refine lv_iload_n hx hb dX2_placeStart_22 rfl (lv_at hl 0 rfl) ?_
            refine lv_iload_n hx hb dX2_placeStart_23 rfl (lv_at hl 1 rfl) ?_
            refine lv_iload_n hx hb dX2_placeStart_24 rfl (lv_at hl 1 rfl) ?_
            refine lv_iload_n hx hb dX2_placeStart_25 rfl (lv_at hl 3 rfl) ?_
            refine lv_iadd hx hb dX2_placeStart_26 ?_
            refine n_as (x' := nI ((4 * t) + 16)) (nI_add _ _) ?_
            refine lv_iconst (v := (nI 1)) hx hb dX2_placeStart_27 (by decide) ?_
            refine lv_isub hx hb dX2_placeStart_28 ?_
            refine n_as (x' := (dn (4 * t + 16))) (rfl) ?_
            refine cl_N0 (As := [.int (nI (4 * t / 32)), .int (nI (4 * t)), .int (dn (4 * t + 16))]) (rest := []) F hK hA hP hD hS (c_X3_rangeBits (by omega) (by omega) (by omega)) (⟨va_cnB 3 hts gX2_placeStart_X3_rangeBits_n73 rfl rfl rfl (hK.2 (.methodLinkNest RX2 73 yX3_rangeBits RX3) (by decide +kernel)) (hts (.initialized RX3) (by decide +kernel)) (by decide +kernel) ⟨Nat.le_of_ble_eq_true rfl, Nat.le_of_ble_eq_true rfl⟩, hts (.static yX3_rangeBits) (by decide +kernel), trivial⟩) rfl hl.1 rfl (Nat.le_of_ble_eq_true rfl) ⟨Nat.zero_le _, Nat.zero_le _⟩ dX2_placeStart_29 (fun rr H locs hw_12 hP hS => ?_)
            try dsimp only at hw_12
            have hrr := hw_12
            refine lv_istore (lv' := [(4, .int rr), (3, .int (nI (4 * t / 32))), (2, .int (nI (4 * t))), (0, .ref (a 0)), (1, .int (nI 16))]) hx hb dX2_placeStart_32 hl (by decide) rfl (fun ls hl => ?_)
            refine lv_aload_n hx hb dX2_placeStart_34 rfl (lv_at hl 3 rfl) ?_
            refine va_get (D := D) (ci := 2) (v := .ref (a 1)) (C := RX2) (T := TX2) (N := 5) hx hb hts hI2 hown hK.1 hP 0 rfl rfl 0 (by decide) lk11 (fun _ h9 => h9) rfl dX2_placeStart_35 ?_
            refine lv_iconst (v := (nI 0)) hx hb dX2_placeStart_38 (by decide) ?_
            refine n_aald (b := a 4) hx hb hK hP 1 1 rfl rfl (by decide) (by decide) rfl dX2_placeStart_39 ?_
            refine lv_iload_n hx hb dX2_placeStart_40 rfl (lv_at hl 1 rfl) ?_
            refine n_iald hx hb hK hP 4 0 rfl rfl (by decide) (by omega) dX2_placeStart_41 ?_
            refine lv_iload hx hb dX2_placeStart_42 (lv_at hl 0 rfl) ?_
            have hpl := rep_pl R (p := 4 * t) (z := 16) (q := (4 * t + 15) / 16) (m := rr) (by omega) (by unfold okz; omega) (by omega) hrr
            refine lv_iand hx hb dX2_placeStart_44 ?_
            refine lv_iload hx hb dX2_placeStart_45 (lv_at hl 0 rfl) ?_
            refine lv_icmp_ne (tgt := 52) hx hb dX2_placeStart_47 (by decide) (fun c47 => ?_) (fun c47 => ?_)
            · skip
              refine lv_iinc (v := (nI (4 * (t + 1)))) (lv' := [(2, .int (nI (4 * (t + 1)))), (4, .int rr), (3, .int (nI (4 * t / 32))), (0, .ref (a 0)), (1, .int (nI 16))]) hx hb dX2_placeStart_52 hl (k := 2) rfl (n_inc4 _) (by decide) rfl (fun ls hl => ?_)
              refine lv_goto (tgt := 2) hx hb dX2_placeStart_55 (by decide) ?_
              exact ih2 (t + 1) _ _ _ (by omega) (by rw [ha, ls1_no (by omega) (by rw [← Bool.not_eq_true]; exact fun q => c47 (hpl.mpr q)), show (4 * (t + 1) + 15) / 16 = (4 * t + 15) / 16 + 1 by omega]) (by omega) hP hD hS (lv_sub hl [0, 3, 4] rfl)
            · skip
              refine lv_iload_n hx hb dX2_placeStart_50 rfl (lv_at hl 2 rfl) ?_
              exact RETN _ _ (nI (4 * t)) () _ _ dX2_placeStart_51 (rfl) (by unfold pl; rw [show 320 / 16 = 20 from rfl, ha, ls1_yes (by omega) (hpl.mp c47)]; exact congrArg nI (show 4 * t = 16 * ((4 * t + 15) / 16) by omega)) hP hD hS
    exact LP2 _ 0 _ _ _ (by omega) (rfl) (Nat.lt_succ_self _) hP hD hS (lv_sub hl [0, 1, 2] rfl)
  ·
    skip
    refine lv_iconst (v := (nI 0)) hx hb dX2_placeStart_0 (by decide) ?_
    refine lv_istore_n (lv' := [(2, .int (nI 0)), (0, .ref (a 0)), (1, .int (nI 32))]) hx hb dX2_placeStart_1 rfl hl (by decide) rfl (fun ls hl => ?_)
    have LP2 : ∀ (nn : Nat) (t : Nat) (H : Heap) (locs : List Loc) (ls : Array Slot), (t ≤ 80) → (ls1 (plq f 32) 10 0 = ls1 (plq f 32) (10 - ((4 * t + 31) / 32)) ((4 * t + 31) / 32)) → 80 - t < nn → va_P D vwCl (SW a cI cG V) H → va_D A0 (SW a cI cG V) → va_S A0 s0.heap H locs → lv_has ls 5 [(2, .int (nI (4 * t))), (0, .ref (a 0)), (1, .int (nI 32))] → W P0 l e0 { frames := 2, cells := 0, slots := 0, locals := 48 } s0 m0 a0 b0 t0 c0 H locs 0 0 Q0 (F0 m0 2 ls []) := by
      intro nn
      induction nn with
      | zero => intro t H locs ls ht ha hmu; exact absurd hmu (Nat.not_lt_zero _)
      | succ nn ih2 =>
        intro t H locs ls ht ha hmu2 hP hD hS hl
        refine lv_iload_n hx hb dX2_placeStart_2 rfl (lv_at hl 0 rfl) ?_
        refine lv_sipush (v := (nI 320)) hx hb dX2_placeStart_3 (by decide) ?_
        refine lv_icmp_ge (tgt := 58) hx hb dX2_placeStart_6 (by decide) (fun c6 => ?_) (fun c6 => ?_)
        · skip
          replace c6 : 320 ≤ (4 * t) := by rw [nI_leI (by omega) (by omega)] at c6; exact c6
          refine lv_bipush (v := (-9)) hx hb dX2_placeStart_58 (by decide) ?_
          exact RETN _ _ (-9) () _ _ dX2_placeStart_60 (rfl) (by unfold pl; rw [show 320 / 32 = 10 from rfl, ha, ls1_end _ (by omega)]; rfl) hP hD hS
        · skip
          replace c6 : ¬ (320 ≤ (4 * t)) := by rw [nI_leI (by omega) (by omega)] at c6; exact c6
          refine lv_iload_n hx hb dX2_placeStart_9 rfl (lv_at hl 0 rfl) ?_
          refine lv_iload_n hx hb dX2_placeStart_10 rfl (lv_at hl 2 rfl) ?_
          refine lv_iconst (v := (nI 1)) hx hb dX2_placeStart_11 (by decide) ?_
          refine lv_isub hx hb dX2_placeStart_12 ?_
          refine n_as (x' := nI 31) (by decide) ?_
          refine lv_iand hx hb dX2_placeStart_13 ?_
          refine n_as (x' := (nI (4 * t % 32))) (by rw [nb_and, show (31 : Nat) = 2 ^ 5 - 1 from rfl, Nat.and_two_pow_sub_one_eq_mod]) ?_
          refine lv_if_ne (tgt := 52) hx hb dX2_placeStart_14 (by decide) (fun c14 => ?_) (fun c14 => ?_)
          · skip
            replace c14 : ¬ (4 * t % 32) = 0 := by rw [show (0 : Int32) = nI 0 from rfl, nI_eq (by omega) (by omega)] at c14; exact c14
            refine lv_iinc (v := (nI (4 * (t + 1)))) (lv' := [(2, .int (nI (4 * (t + 1)))), (0, .ref (a 0)), (1, .int (nI 32))]) hx hb dX2_placeStart_52 hl (k := 0) rfl (n_inc4 _) (by decide) rfl (fun ls hl => ?_)
            refine lv_goto (tgt := 2) hx hb dX2_placeStart_55 (by decide) ?_
            exact ih2 (t + 1) _ _ _ (by omega) (by rw [ha, show (4 * (t + 1) + 31) / 32 = (4 * t + 31) / 32 by omega]) (by omega) hP hD hS (lv_sub hl [0, 1, 2] rfl)
          · skip
            replace c14 : (4 * t % 32) = 0 := by rw [show (0 : Int32) = nI 0 from rfl, nI_eq (by omega) (by omega)] at c14; exact c14
            refine lv_iload_n hx hb dX2_placeStart_17 rfl (lv_at hl 0 rfl) ?_
            refine cl_N0 (As := [.int (nI (4 * t))]) (rest := []) F hK hA hP hD hS (c_X3_wordOf (by omega)) (⟨va_cnB 1 hts gX2_placeStart_X3_wordOf_n70 rfl rfl rfl (hK.2 (.methodLinkNest RX2 70 yX3_wordOf RX3) (by decide +kernel)) (hts (.initialized RX3) (by decide +kernel)) (by decide +kernel) ⟨Nat.le_of_ble_eq_true rfl, Nat.le_of_ble_eq_true rfl⟩, hts (.static yX3_wordOf) (by decide +kernel), trivial⟩) rfl hl.1 rfl (Nat.le_of_ble_eq_true rfl) ⟨Nat.zero_le _, Nat.zero_le _⟩ dX2_placeStart_18 (fun r_13 H locs hw_14 hP hS => ?_)
            try dsimp only at hw_14
            obtain rfl : r_13 = (nI (4 * t / 32)) := hw_14
            refine lv_istore_n (lv' := [(3, .int (nI (4 * t / 32))), (2, .int (nI (4 * t))), (0, .ref (a 0)), (1, .int (nI 32))]) hx hb dX2_placeStart_21 rfl hl (by decide) rfl (fun ls hl => ?_)
            refine lv_iload_n hx hb dX2_placeStart_22 rfl (lv_at hl 0 rfl) ?_
            refine lv_iload_n hx hb dX2_placeStart_23 rfl (lv_at hl 1 rfl) ?_
            refine lv_iload_n hx hb dX2_placeStart_24 rfl (lv_at hl 1 rfl) ?_
            refine lv_iload_n hx hb dX2_placeStart_25 rfl (lv_at hl 3 rfl) ?_
            refine lv_iadd hx hb dX2_placeStart_26 ?_
            refine n_as (x' := nI ((4 * t) + 32)) (nI_add _ _) ?_
            refine lv_iconst (v := (nI 1)) hx hb dX2_placeStart_27 (by decide) ?_
            refine lv_isub hx hb dX2_placeStart_28 ?_
            refine n_as (x' := (dn (4 * t + 32))) (rfl) ?_
            refine cl_N0 (As := [.int (nI (4 * t / 32)), .int (nI (4 * t)), .int (dn (4 * t + 32))]) (rest := []) F hK hA hP hD hS (c_X3_rangeBits (by omega) (by omega) (by omega)) (⟨va_cnB 3 hts gX2_placeStart_X3_rangeBits_n73 rfl rfl rfl (hK.2 (.methodLinkNest RX2 73 yX3_rangeBits RX3) (by decide +kernel)) (hts (.initialized RX3) (by decide +kernel)) (by decide +kernel) ⟨Nat.le_of_ble_eq_true rfl, Nat.le_of_ble_eq_true rfl⟩, hts (.static yX3_rangeBits) (by decide +kernel), trivial⟩) rfl hl.1 rfl (Nat.le_of_ble_eq_true rfl) ⟨Nat.zero_le _, Nat.zero_le _⟩ dX2_placeStart_29 (fun rr H locs hw_16 hP hS => ?_)
            try dsimp only at hw_16
            have hrr := hw_16
            refine lv_istore (lv' := [(4, .int rr), (3, .int (nI (4 * t / 32))), (2, .int (nI (4 * t))), (0, .ref (a 0)), (1, .int (nI 32))]) hx hb dX2_placeStart_32 hl (by decide) rfl (fun ls hl => ?_)
            refine lv_aload_n hx hb dX2_placeStart_34 rfl (lv_at hl 3 rfl) ?_
            refine va_get (D := D) (ci := 2) (v := .ref (a 1)) (C := RX2) (T := TX2) (N := 5) hx hb hts hI2 hown hK.1 hP 0 rfl rfl 0 (by decide) lk11 (fun _ h9 => h9) rfl dX2_placeStart_35 ?_
            refine lv_iconst (v := (nI 0)) hx hb dX2_placeStart_38 (by decide) ?_
            refine n_aald (b := a 4) hx hb hK hP 1 1 rfl rfl (by decide) (by decide) rfl dX2_placeStart_39 ?_
            refine lv_iload_n hx hb dX2_placeStart_40 rfl (lv_at hl 1 rfl) ?_
            refine n_iald hx hb hK hP 4 0 rfl rfl (by decide) (by omega) dX2_placeStart_41 ?_
            refine lv_iload hx hb dX2_placeStart_42 (lv_at hl 0 rfl) ?_
            have hpl := rep_pl R (p := 4 * t) (z := 32) (q := (4 * t + 31) / 32) (m := rr) (by omega) (by unfold okz; omega) (by omega) hrr
            refine lv_iand hx hb dX2_placeStart_44 ?_
            refine lv_iload hx hb dX2_placeStart_45 (lv_at hl 0 rfl) ?_
            refine lv_icmp_ne (tgt := 52) hx hb dX2_placeStart_47 (by decide) (fun c47 => ?_) (fun c47 => ?_)
            · skip
              refine lv_iinc (v := (nI (4 * (t + 1)))) (lv' := [(2, .int (nI (4 * (t + 1)))), (4, .int rr), (3, .int (nI (4 * t / 32))), (0, .ref (a 0)), (1, .int (nI 32))]) hx hb dX2_placeStart_52 hl (k := 2) rfl (n_inc4 _) (by decide) rfl (fun ls hl => ?_)
              refine lv_goto (tgt := 2) hx hb dX2_placeStart_55 (by decide) ?_
              exact ih2 (t + 1) _ _ _ (by omega) (by rw [ha, ls1_no (by omega) (by rw [← Bool.not_eq_true]; exact fun q => c47 (hpl.mpr q)), show (4 * (t + 1) + 31) / 32 = (4 * t + 31) / 32 + 1 by omega]) (by omega) hP hD hS (lv_sub hl [0, 3, 4] rfl)
            · skip
              refine lv_iload_n hx hb dX2_placeStart_50 rfl (lv_at hl 2 rfl) ?_
              exact RETN _ _ (nI (4 * t)) () _ _ dX2_placeStart_51 (rfl) (by unfold pl; rw [show 320 / 32 = 10 from rfl, ha, ls1_yes (by omega) (hpl.mp c47)]; exact congrArg nI (show 4 * t = 32 * ((4 * t + 31) / 32) by omega)) hP hD hS
    exact LP2 _ 0 _ _ _ (by omega) (rfl) (Nat.lt_succ_self _) hP hD hS (lv_sub hl [0, 1, 2] rfl)
set_option maxHeartbeats 4000000 in
set_option maxRecDepth 100000 in
theorem c_X2_reserveBlock {l : Launch} {D : va_G} {cI cG cC cR : ClassId} {a : Nat → Nat} {f : Nat → Int32} {V : Nat → Nat → Int32} {v : Int32} (R : RepS f V) (hz : BZ f) : CtI l yX2_reserveBlock wsX2_reserveBlock { frames := 3, cells := 0, slots := 0, locals := 72 } D (TY cI cG cC cR) [.ref (a 0), .int v] (SW a cI cG V) (fun (u : Nat → Nat → Int32) => SW a cI cG u) (fun (r : Int32) (u : Nat → Nat → Int32) => r = (rsA f v).1 ∧ RepS (rsA f v).2 u) := by
  refine CtI.of (cc := cX2_reserveBlock) (maxL := 4) (ty := .int) (by decide) rfl (Nat.le_of_ble_eq_true rfl) ?_
  intro P0 e0 s0 m0 a0 b0 t0 c0 A0 Q0 ls F hK hP hD hA RETN hl
  obtain ⟨hx, hb, hml, hown, hts⟩ := id F
  have hS : va_S A0 s0.heap s0.heap [] := va_S.rf
  have hl : lv_has ls 4 [(0, .ref (a 0)), (1, .int v)] := hl
  have lk16 := hts (.fieldLink RX2 16 "SlotMaps$Slots" "blockFirst" "[I") (by decide +kernel)
  have lk20 := hts (.fieldLink RX2 20 "SlotMaps$Slots" "blockSize" "[I") (by decide +kernel)
  have hI2 : ∀ w ∈ u_ws RX2 TX2 5, w ∈ wsX2_reserveBlock := by decide +kernel
  refine lv_iload_n hx hb dX2_reserveBlock_0 rfl (lv_at hl 1 rfl) ?_
  refine cl_N0 (As := [.int v]) (rest := []) F hK hA hP hD hS (c_X3_isBlockSize) (⟨va_cnB 1 hts gX2_reserveBlock_X3_isBlockSize_n85 rfl rfl rfl (hK.2 (.methodLinkNest RX2 85 yX3_isBlockSize RX3) (by decide +kernel)) (hts (.initialized RX3) (by decide +kernel)) (by decide +kernel) ⟨Nat.le_of_ble_eq_true rfl, Nat.le_of_ble_eq_true rfl⟩, hts (.static yX3_isBlockSize) (by decide +kernel), trivial⟩) rfl hl.1 rfl (Nat.le_of_ble_eq_true rfl) ⟨Nat.zero_le _, Nat.zero_le _⟩ dX2_reserveBlock_1 (fun r_1 H locs hw_2 hP hS => ?_)
  try dsimp only at hw_2
  obtain rfl : r_1 = (bI (szB v)) := hw_2
  refine lv_if_ne (tgt := 9) hx hb dX2_reserveBlock_4 (by decide) (fun c4 => ?_) (fun c4 => ?_)
  · skip
    replace c4 : ¬ (bI (szB v)) = nI 0 := c4
    obtain ⟨z, rfl, hok⟩ := szB_t (bI_ct c4)
    have hzl := okz_le hok
    refine lv_aload_n hx hb dX2_reserveBlock_9 rfl (lv_at hl 0 rfl) ?_
    refine cl_Vi (b := (a 0)) (As := []) (rest := []) (wc := SW a cI cG V) (wsN := fun (_ : Unit) => SW a cI cG V) F hK hA hP hD hS (c_X2_firstUnusedBlock R.2.2.2 hz) (cwV 0 hts gX2_reserveBlock_X2_firstUnusedBlock rfl rfl rfl (by decide +kernel) ⟨Nat.le_of_ble_eq_true rfl, Nat.le_of_ble_eq_true rfl⟩) [0, 1, 2, 3, 4, 5, 6, 7] [] [0, 1, 2, 3, 4, 5, 6, 7] ([]) rfl rfl (fun _ => rfl) (by decide) (by decide) 0 rfl rfl rfl hl.1 rfl (Nat.le_of_ble_eq_true rfl) ⟨Nat.zero_le _, Nat.zero_le _⟩ dX2_reserveBlock_10 (fun rb _ H locs hw_3 hP hD hS => ?_)
    try dsimp only at hw_3 hP hD
    have hrb : rb = oI (ub f) := hw_3
    cases hob : ub f with
    | none =>
      obtain rfl : rb = -9 := by rw [hrb, hob]; rfl
      refine lv_istore_n (lv' := [(2, .int (-9)), (0, .ref (a 0)), (1, .int (nI z))]) hx hb dX2_reserveBlock_13 rfl hl (by decide) rfl (fun ls hl => ?_)
      refine lv_aload_n hx hb dX2_reserveBlock_14 rfl (lv_at hl 1 rfl) ?_
      refine lv_iload_n hx hb dX2_reserveBlock_15 rfl (lv_at hl 2 rfl) ?_
      refine cl_Vi (b := (a 0)) (As := [.int (nI z)]) (rest := []) (wc := SW a cI cG V) (wsN := fun (_ : Unit) => SW a cI cG V) F hK hA hP hD hS (c_X2_placeStart R.1 hok) (cwV 1 hts gX2_reserveBlock_X2_placeStart rfl rfl rfl (by decide +kernel) ⟨Nat.le_of_ble_eq_true rfl, Nat.le_of_ble_eq_true rfl⟩) [0, 1, 2, 3, 4, 5, 6, 7] [] [0, 1, 2, 3, 4, 5, 6, 7] ([]) rfl rfl (fun _ => rfl) (by decide) (by decide) 0 rfl rfl rfl hl.1 rfl (Nat.le_of_ble_eq_true rfl) ⟨Nat.zero_le _, Nat.zero_le _⟩ dX2_reserveBlock_16 (fun rp _ H locs hw_5 hP hD hS => ?_)
      try dsimp only at hw_5 hP hD
      have hrp : rp = oI (pl f z) := hw_5
      cases hop : pl f z with
      | none =>
        obtain rfl : rp = -9 := by rw [hrp, hop]; rfl
        refine lv_istore_n (lv' := [(3, .int (-9)), (2, .int (-9)), (0, .ref (a 0)), (1, .int (nI z))]) hx hb dX2_reserveBlock_19 rfl hl (by decide) rfl (fun ls hl => ?_)
        refine lv_iload_n hx hb dX2_reserveBlock_20 rfl (lv_at hl 1 rfl) ?_
        refine lv_bipush (v := (-9)) hx hb dX2_reserveBlock_21 (by decide) ?_
        refine lv_icmp_eq (tgt := 32) hx hb dX2_reserveBlock_23 (by decide) (fun c23 => ?_) (fun c23 => ?_)
        · skip
          refine lv_bipush (v := (-3)) hx hb dX2_reserveBlock_32 (by decide) ?_
          exact RETN _ _ (-3) V _ _ dX2_reserveBlock_34 (rfl) (by first | (rw [rsA_0 hok (Or.inl hob)]; exact ⟨rfl, R⟩) | (rw [rsA_0 hok (Or.inr hop)]; exact ⟨rfl, R⟩)) hP hD hS
        · skip
          exfalso
          exact c23 rfl
      | some p =>
        obtain rfl : rp = nI p := by rw [hrp, hop]; rfl
        obtain ⟨hp1, hp2, hp3⟩ := pl_ok hok hop
        have he := blk_end hok hp2
        refine lv_istore_n (lv' := [(3, .int (nI p)), (2, .int (-9)), (0, .ref (a 0)), (1, .int (nI z))]) hx hb dX2_reserveBlock_19 rfl hl (by decide) rfl (fun ls hl => ?_)
        refine lv_iload_n hx hb dX2_reserveBlock_20 rfl (lv_at hl 1 rfl) ?_
        refine lv_bipush (v := (-9)) hx hb dX2_reserveBlock_21 (by decide) ?_
        refine lv_icmp_eq (tgt := 32) hx hb dX2_reserveBlock_23 (by decide) (fun c23 => ?_) (fun c23 => ?_)
        · skip
          refine lv_bipush (v := (-3)) hx hb dX2_reserveBlock_32 (by decide) ?_
          exact RETN _ _ (-3) V _ _ dX2_reserveBlock_34 (rfl) (by first | (rw [rsA_0 hok (Or.inl hob)]; exact ⟨rfl, R⟩) | (rw [rsA_0 hok (Or.inr hop)]; exact ⟨rfl, R⟩)) hP hD hS
        · skip
          exfalso
          exact c23 rfl
    | some kb =>
      obtain rfl : rb = nI kb := by rw [hrb, hob]; rfl
      obtain ⟨-, hkb, -, -⟩ := ls1_some hob
      refine lv_istore_n (lv' := [(2, .int (nI kb)), (0, .ref (a 0)), (1, .int (nI z))]) hx hb dX2_reserveBlock_13 rfl hl (by decide) rfl (fun ls hl => ?_)
      refine lv_aload_n hx hb dX2_reserveBlock_14 rfl (lv_at hl 1 rfl) ?_
      refine lv_iload_n hx hb dX2_reserveBlock_15 rfl (lv_at hl 2 rfl) ?_
      refine cl_Vi (b := (a 0)) (As := [.int (nI z)]) (rest := []) (wc := SW a cI cG V) (wsN := fun (_ : Unit) => SW a cI cG V) F hK hA hP hD hS (c_X2_placeStart R.1 hok) (cwV 1 hts gX2_reserveBlock_X2_placeStart rfl rfl rfl (by decide +kernel) ⟨Nat.le_of_ble_eq_true rfl, Nat.le_of_ble_eq_true rfl⟩) [0, 1, 2, 3, 4, 5, 6, 7] [] [0, 1, 2, 3, 4, 5, 6, 7] ([]) rfl rfl (fun _ => rfl) (by decide) (by decide) 0 rfl rfl rfl hl.1 rfl (Nat.le_of_ble_eq_true rfl) ⟨Nat.zero_le _, Nat.zero_le _⟩ dX2_reserveBlock_16 (fun rp _ H locs hw_7 hP hD hS => ?_)
      try dsimp only at hw_7 hP hD
      have hrp : rp = oI (pl f z) := hw_7
      cases hop : pl f z with
      | none =>
        obtain rfl : rp = -9 := by rw [hrp, hop]; rfl
        refine lv_istore_n (lv' := [(3, .int (-9)), (2, .int (nI kb)), (0, .ref (a 0)), (1, .int (nI z))]) hx hb dX2_reserveBlock_19 rfl hl (by decide) rfl (fun ls hl => ?_)
        refine lv_iload_n hx hb dX2_reserveBlock_20 rfl (lv_at hl 1 rfl) ?_
        refine lv_bipush (v := (-9)) hx hb dX2_reserveBlock_21 (by decide) ?_
        refine lv_icmp_eq (tgt := 32) hx hb dX2_reserveBlock_23 (by decide) (fun c23 => ?_) (fun c23 => ?_)
        · skip
          exfalso
          exact ne9 (by omega) c23
        · skip
          refine lv_iload_n hx hb dX2_reserveBlock_26 rfl (lv_at hl 0 rfl) ?_
          refine lv_bipush (v := (-9)) hx hb dX2_reserveBlock_27 (by decide) ?_
          refine lv_icmp_ne (tgt := 35) hx hb dX2_reserveBlock_29 (by decide) (fun c29 => ?_) (fun c29 => ?_)
          · skip
            exfalso
            exact c29 rfl
          · skip
            refine lv_bipush (v := (-3)) hx hb dX2_reserveBlock_32 (by decide) ?_
            exact RETN _ _ (-3) V _ _ dX2_reserveBlock_34 (rfl) (by first | (rw [rsA_0 hok (Or.inl hob)]; exact ⟨rfl, R⟩) | (rw [rsA_0 hok (Or.inr hop)]; exact ⟨rfl, R⟩)) hP hD hS
      | some p =>
        obtain rfl : rp = nI p := by rw [hrp, hop]; rfl
        obtain ⟨hp1, hp2, hp3⟩ := pl_ok hok hop
        have he := blk_end hok hp2
        refine lv_istore_n (lv' := [(3, .int (nI p)), (2, .int (nI kb)), (0, .ref (a 0)), (1, .int (nI z))]) hx hb dX2_reserveBlock_19 rfl hl (by decide) rfl (fun ls hl => ?_)
        refine lv_iload_n hx hb dX2_reserveBlock_20 rfl (lv_at hl 1 rfl) ?_
        refine lv_bipush (v := (-9)) hx hb dX2_reserveBlock_21 (by decide) ?_
        refine lv_icmp_eq (tgt := 32) hx hb dX2_reserveBlock_23 (by decide) (fun c23 => ?_) (fun c23 => ?_)
        · skip
          exfalso
          exact ne9 (by omega) c23
        · skip
          refine lv_iload_n hx hb dX2_reserveBlock_26 rfl (lv_at hl 0 rfl) ?_
          refine lv_bipush (v := (-9)) hx hb dX2_reserveBlock_27 (by decide) ?_
          refine lv_icmp_ne (tgt := 35) hx hb dX2_reserveBlock_29 (by decide) (fun c29 => ?_) (fun c29 => ?_)
          · skip
            refine lv_aload_n hx hb dX2_reserveBlock_35 rfl (lv_at hl 2 rfl) ?_
            refine va_get (D := D) (ci := 2) (v := .ref (a 2)) (C := RX2) (T := TX2) (N := 5) hx hb hts hI2 hown hK.1 hP 0 rfl rfl 1 (by decide) lk16 (fun _ h9 => h9) rfl dX2_reserveBlock_36 ?_
            refine lv_iload_n hx hb dX2_reserveBlock_39 rfl (lv_at hl 1 rfl) ?_
            refine lv_iload_n hx hb dX2_reserveBlock_40 rfl (lv_at hl 0 rfl) ?_
            refine n_iast hx hb hK hP hD hS 2 0 rfl rfl (by decide) (by omega) dX2_reserveBlock_41 (wsN := SW a cI cG (vset V 4 (upd (V 4) kb (nI p)))) rfl (fun H locs hP hD hS => ?_)
            obtain ⟨V_9, hV_9⟩ : ∃ z9, z9 = (vset V 4 (upd (V 4) kb (nI p))) := ⟨_, rfl⟩
            rw [← hV_9] at hP hD
            have hV_A := hV_9
            refine lv_aload_n hx hb dX2_reserveBlock_42 rfl (lv_at hl 2 rfl) ?_
            refine va_get (D := D) (ci := 2) (v := .ref (a 3)) (C := RX2) (T := TX2) (N := 5) hx hb hts hI2 hown hK.1 hP 0 rfl rfl 2 (by decide) lk20 (fun _ h9 => h9) rfl dX2_reserveBlock_43 ?_
            refine lv_iload_n hx hb dX2_reserveBlock_46 rfl (lv_at hl 1 rfl) ?_
            refine lv_iload_n hx hb dX2_reserveBlock_47 rfl (lv_at hl 3 rfl) ?_
            refine n_iast hx hb hK hP hD hS 3 0 rfl rfl (by decide) (by omega) dX2_reserveBlock_48 (wsN := SW a cI cG (vset V_9 5 (upd (V_9 5) kb (nI z)))) rfl (fun H locs hP hD hS => ?_)
            obtain ⟨V_10, hV_10⟩ : ∃ z9, z9 = (vset V_9 5 (upd (V_9 5) kb (nI z))) := ⟨_, rfl⟩
            rw [← hV_10] at hP hD
            have R1 : RepS (ow (blk f kb p z) p z (nI (kb + 1))) V_10 := RepS_own (RepS_blk R (by omega) (by omega) hV_A hV_10) (by omega)
            refine lv_aload_n hx hb dX2_reserveBlock_49 rfl (lv_at hl 2 rfl) ?_
            refine lv_iload_n hx hb dX2_reserveBlock_50 rfl (lv_at hl 0 rfl) ?_
            refine cl_N0 (As := [.int (nI p)]) (rest := [.ref (a 0)]) F hK hA hP hD hS (c_X3_wordOf (by omega)) (⟨va_cnB 1 hts gX2_reserveBlock_X3_wordOf_n70 rfl rfl rfl (hK.2 (.methodLinkNest RX2 70 yX3_wordOf RX3) (by decide +kernel)) (hts (.initialized RX3) (by decide +kernel)) (by decide +kernel) ⟨Nat.le_of_ble_eq_true rfl, Nat.le_of_ble_eq_true rfl⟩, hts (.static yX3_wordOf) (by decide +kernel), trivial⟩) rfl hl.1 rfl (Nat.le_of_ble_eq_true rfl) ⟨Nat.zero_le _, Nat.zero_le _⟩ dX2_reserveBlock_51 (fun r_11 H locs hw_12 hP hS => ?_)
            try dsimp only at hw_12
            obtain rfl : r_11 = (nI (p / 32)) := hw_12
            refine lv_aload_n hx hb dX2_reserveBlock_54 rfl (lv_at hl 2 rfl) ?_
            refine lv_iload_n hx hb dX2_reserveBlock_55 rfl (lv_at hl 1 rfl) ?_
            refine cl_Vi (b := (a 0)) (As := [.int (nI kb)]) (rest := [.int (nI (p / 32)), .ref (a 0)]) (wc := SW a cI cG V_10) (wsN := fun (_ : Unit) => SW a cI cG V_10) F hK hA hP hD hS (c_X2_blockBits (by omega) (by rw [hV_10, vset_n _ _ (by decide), hV_A, vset_s, upd_s]) (by rw [hV_10, vset_s, upd_s]) (by omega) (by omega)) (cwV 1 hts gX2_reserveBlock_X2_blockBits rfl rfl rfl (by decide +kernel) ⟨Nat.le_of_ble_eq_true rfl, Nat.le_of_ble_eq_true rfl⟩) [0, 1, 2, 3, 4, 5, 6, 7] [] [0, 1, 2, 3, 4, 5, 6, 7] ([]) rfl rfl (fun _ => rfl) (by decide) (by decide) 0 rfl rfl rfl hl.1 rfl (Nat.le_of_ble_eq_true rfl) ⟨Nat.zero_le _, Nat.zero_le _⟩ dX2_reserveBlock_56 (fun rr _ H locs hw_13 hP hD hS => ?_)
            try dsimp only at hw_13 hP hD
            have hrr := hw_13
            refine lv_iconst (v := (nI 0)) hx hb dX2_reserveBlock_59 (by decide) ?_
            refine lv_iconst (v := (nI 3)) hx hb dX2_reserveBlock_60 (by decide) ?_
            refine cl_Vv (b := (a 0)) (As := [.int (nI (p / 32)), .int rr, .int (nI 0), .int (nI 3)]) (rest := []) (wc := SW a cI cG V_10) (wsN := fun (V9 : Nat → Nat → Int32) => SW a cI cG V9) F hK hA hP hD hS (c_X2_change R1 (by omega) (by decide) (by decide) (by decide) (fun i hi h => by rw [hrr i hi, decide_eq_true_iff] at h; rw [rs_free (by omega)]; exact hp3 _ h.1 h.2)) (cwV 4 hts gX2_reserveBlock_X2_change rfl rfl rfl (by decide +kernel) ⟨Nat.le_of_ble_eq_true rfl, Nat.le_of_ble_eq_true rfl⟩) [0, 1, 2, 3, 4, 5, 6, 7] [] [0, 1, 2, 3, 4, 5, 6, 7] ([]) rfl rfl (fun _ => rfl) (by decide) (by decide) 0 rfl rfl rfl hl.1 rfl (Nat.le_of_ble_eq_true rfl) ⟨Nat.zero_le _, Nat.zero_le _⟩ dX2_reserveBlock_61 (fun V9 H locs hw_15 hP hD hS => ?_)
            try dsimp only at hw_15 hP hD
            have R3 : RepS (rsF (blk f kb p z) kb p z) V9 := by have q := hw_15; rw [bec_cong (P' := rg p z) (v' := fun _ => nI 3) (fun j _ => mP_rg rfl he hrr j) (fun _ _ _ => rfl)] at q; exact q
            refine lv_iload_n hx hb dX2_reserveBlock_64 rfl (lv_at hl 1 rfl) ?_
            exact RETN _ _ (nI kb) V9 _ _ dX2_reserveBlock_65 (rfl) (by rw [rsA_s hok hob hop]; exact ⟨rfl, R3⟩) hP hD hS
          · skip
            exfalso
            exact ne9 (by omega) c29
  · skip
    replace c4 : (bI (szB v)) = nI 0 := c4
    refine lv_iconst (v := (-1)) hx hb dX2_reserveBlock_7 (by decide) ?_
    exact RETN _ _ (-1) V _ _ dX2_reserveBlock_8 (rfl) (by rw [rsA_n (bI_cf c4)]; exact ⟨rfl, R⟩) hP hD hS
set_option maxHeartbeats 4000000 in
set_option maxRecDepth 100000 in
theorem c_X2_takeInBlock {l : Launch} {D : va_G} {cI cG cC cR : ClassId} {a : Nat → Nat} {f : Nat → Int32} {V : Nat → Nat → Int32} {v : Int32} (R : RepS f V) (hB : BInv f) (hz : BZ f) : CtI l yX2_takeInBlock wsX2_takeInBlock { frames := 3, cells := 0, slots := 0, locals := 70 } D (TY cI cG cC cR) [.ref (a 0), .int v] (SW a cI cG V) (fun (u : Nat → Nat → Int32) => SW a cI cG u) (fun (r : Int32) (u : Nat → Nat → Int32) => r = (tiA f v).1 ∧ RepS (tiA f v).2 u) := by
  refine CtI.of (cc := cX2_takeInBlock) (maxL := 5) (ty := .int) (by decide) rfl (Nat.le_of_ble_eq_true rfl) ?_
  intro P0 e0 s0 m0 a0 b0 t0 c0 A0 Q0 ls F hK hP hD hA RETN hl
  obtain ⟨hx, hb, hml, hown, hts⟩ := id F
  have hS : va_S A0 s0.heap s0.heap [] := va_S.rf
  have hl : lv_has ls 5 [(0, .ref (a 0)), (1, .int v)] := hl
  have lk11 := hts (.fieldLink RX2 11 "SlotMaps$Slots" "bits" "[[I") (by decide +kernel)
  have lk16 := hts (.fieldLink RX2 16 "SlotMaps$Slots" "blockFirst" "[I") (by decide +kernel)
  have hI2 : ∀ w ∈ u_ws RX2 TX2 5, w ∈ wsX2_takeInBlock := by decide +kernel
  refine lv_aload_n hx hb dX2_takeInBlock_0 rfl (lv_at hl 0 rfl) ?_
  refine lv_iload_n hx hb dX2_takeInBlock_1 rfl (lv_at hl 1 rfl) ?_
  refine cl_Vi (b := (a 0)) (As := [.int v]) (rest := []) (wc := SW a cI cG V) (wsN := fun (_ : Unit) => SW a cI cG V) F hK hA hP hD hS (c_X2_hasBlock R.2.2.2 hz) (cwV 1 hts gX2_takeInBlock_X2_hasBlock rfl rfl rfl (by decide +kernel) ⟨Nat.le_of_ble_eq_true rfl, Nat.le_of_ble_eq_true rfl⟩) [0, 1, 2, 3, 4, 5, 6, 7] [] [0, 1, 2, 3, 4, 5, 6, 7] ([]) rfl rfl (fun _ => rfl) (by decide) (by decide) 0 rfl rfl rfl hl.1 rfl (Nat.le_of_ble_eq_true rfl) ⟨Nat.zero_le _, Nat.zero_le _⟩ dX2_takeInBlock_2 (fun r_2 _ H locs hw_1 hP hD hS => ?_)
  try dsimp only at hw_1 hP hD
  obtain rfl : r_2 = (bI (isB f v)) := hw_1
  refine lv_if_ne (tgt := 10) hx hb dX2_takeInBlock_5 (by decide) (fun c5 => ?_) (fun c5 => ?_)
  · skip
    replace c5 : ¬ (bI (isB f v)) = nI 0 := c5
    obtain ⟨kb, hkb, rfl, h0⟩ := isB_t (bI_ct c5)
    obtain ⟨p, z, hp, hzz, hok, hmod, hpz⟩ := hB kb (by omega) h0
    have hzl := okz_le hok
    have he := blk_end hok hmod
    have h5 : V 5 kb = nI z := (R.2.2.2 kb (by omega)).1.trans hzz
    have h4 : V 4 kb = nI p := ((R.2.2.2 kb (by omega)).2.2 (by rw [h5, nI_eq (by omega) (by decide)]; omega)).trans hp
    refine lv_aload_n hx hb dX2_takeInBlock_10 rfl (lv_at hl 0 rfl) ?_
    refine va_get (D := D) (ci := 2) (v := .ref (a 2)) (C := RX2) (T := TX2) (N := 5) hx hb hts hI2 hown hK.1 hP 0 rfl rfl 1 (by decide) lk16 (fun _ h9 => h9) rfl dX2_takeInBlock_11 ?_
    refine lv_iload_n hx hb dX2_takeInBlock_14 rfl (lv_at hl 1 rfl) ?_
    refine n_iald hx hb hK hP 2 0 rfl rfl (by decide) (by omega) dX2_takeInBlock_15 ?_
    refine n_as (x' := (nI p)) (h4) ?_
    refine cl_N0 (As := [.int (nI p)]) (rest := []) F hK hA hP hD hS (c_X3_wordOf (by omega)) (⟨va_cnB 1 hts gX2_takeInBlock_X3_wordOf_n70 rfl rfl rfl (hK.2 (.methodLinkNest RX2 70 yX3_wordOf RX3) (by decide +kernel)) (hts (.initialized RX3) (by decide +kernel)) (by decide +kernel) ⟨Nat.le_of_ble_eq_true rfl, Nat.le_of_ble_eq_true rfl⟩, hts (.static yX3_wordOf) (by decide +kernel), trivial⟩) rfl hl.1 rfl (Nat.le_of_ble_eq_true rfl) ⟨Nat.zero_le _, Nat.zero_le _⟩ dX2_takeInBlock_16 (fun r_3 H locs hw_4 hP hS => ?_)
    try dsimp only at hw_4
    obtain rfl : r_3 = (nI (p / 32)) := hw_4
    refine lv_istore_n (lv' := [(2, .int (nI (p / 32))), (0, .ref (a 0)), (1, .int (nI kb))]) hx hb dX2_takeInBlock_19 rfl hl (by decide) rfl (fun ls hl => ?_)
    refine lv_aload_n hx hb dX2_takeInBlock_20 rfl (lv_at hl 1 rfl) ?_
    refine va_get (D := D) (ci := 2) (v := .ref (a 1)) (C := RX2) (T := TX2) (N := 5) hx hb hts hI2 hown hK.1 hP 0 rfl rfl 0 (by decide) lk11 (fun _ h9 => h9) rfl dX2_takeInBlock_21 ?_
    refine lv_iconst (v := (nI 3)) hx hb dX2_takeInBlock_24 (by decide) ?_
    refine n_aald (b := a 7) hx hb hK hP 1 1 rfl rfl (by decide) (by decide) rfl dX2_takeInBlock_25 ?_
    refine lv_iload_n hx hb dX2_takeInBlock_26 rfl (lv_at hl 0 rfl) ?_
    refine n_iald hx hb hK hP 7 0 rfl rfl (by decide) (by omega) dX2_takeInBlock_27 ?_
    refine lv_aload_n hx hb dX2_takeInBlock_28 rfl (lv_at hl 1 rfl) ?_
    refine lv_iload_n hx hb dX2_takeInBlock_29 rfl (lv_at hl 2 rfl) ?_
    refine cl_Vi (b := (a 0)) (As := [.int (nI kb)]) (rest := [.int ((V 3) (p / 32))]) (wc := SW a cI cG V) (wsN := fun (_ : Unit) => SW a cI cG V) F hK hA hP hD hS (c_X2_blockBits (by omega) h4 h5 (by omega) (by omega)) (cwV 1 hts gX2_takeInBlock_X2_blockBits rfl rfl rfl (by decide +kernel) ⟨Nat.le_of_ble_eq_true rfl, Nat.le_of_ble_eq_true rfl⟩) [0, 1, 2, 3, 4, 5, 6, 7] [] [0, 1, 2, 3, 4, 5, 6, 7] ([]) rfl rfl (fun _ => rfl) (by decide) (by decide) 0 rfl rfl rfl hl.1 rfl (Nat.le_of_ble_eq_true rfl) ⟨Nat.zero_le _, Nat.zero_le _⟩ dX2_takeInBlock_30 (fun rr _ H locs hw_5 hP hD hS => ?_)
    try dsimp only at hw_5 hP hD
    have hrr := hw_5
    have hm : ∀ i, i < 32 → bt (V 3 (p / 32) &&& rr) i = (decide (f (32 * (p / 32) + i) = nI 3) && decide (p ≤ 32 * (p / 32) + i ∧ 32 * (p / 32) + i < p + z)) := fun i hi => by rw [b_and, R.1 3 _ i (by decide) (by omega) hi, hrr i hi]
    obtain ⟨hk1, hk2⟩ := kp_word (f := f) (p := p) (z := z) (w := p / 32) (by omega) he
    refine lv_iand hx hb dX2_takeInBlock_33 ?_
    refine lv_istore_n (lv' := [(3, .int (((V 3) (p / 32)) &&& rr)), (2, .int (nI (p / 32))), (0, .ref (a 0)), (1, .int (nI kb))]) hx hb dX2_takeInBlock_34 rfl hl (by decide) rfl (fun ls hl => ?_)
    refine lv_iload_n hx hb dX2_takeInBlock_35 rfl (lv_at hl 0 rfl) ?_
    refine lv_if_ne (tgt := 42) hx hb dX2_takeInBlock_36 (by decide) (fun c36 => ?_) (fun c36 => ?_)
    · skip
      replace c36 : ¬ (((V 3) (p / 32)) &&& rr) = nI 0 := c36
      obtain ⟨sl, ho⟩ : ∃ s9, kp f p z = some s9 := by
        cases q : kp f p z with
        | some s9 => exact ⟨s9, rfl⟩
        | none => exact absurd ((zero_of hm).mpr (hk2 q)) c36
      obtain ⟨hs1, hs2, hs3, hs4⟩ := hk1 sl ho
      refine lv_iload_n hx hb dX2_takeInBlock_42 rfl (lv_at hl 1 rfl) ?_
      refine lv_bipush (v := (nI 32)) hx hb dX2_takeInBlock_43 (by decide) ?_
      refine lv_imul hx hb dX2_takeInBlock_45 ?_
      refine n_as (x' := nI ((p / 32) * 32)) (pk_mul _ _) ?_
      refine lv_iload_n hx hb dX2_takeInBlock_46 rfl (lv_at hl 0 rfl) ?_
      refine cl_N0 (As := [.int (((V 3) (p / 32)) &&& rr)]) (rest := [.int (nI ((p / 32) * 32))]) F hK hA hP hD hS (c_X3_lowestBit) (⟨va_cnB 1 hts gX2_takeInBlock_X3_lowestBit_n51 rfl rfl rfl (hK.2 (.methodLinkNest RX2 51 yX3_lowestBit RX3) (by decide +kernel)) (hts (.initialized RX3) (by decide +kernel)) (by decide +kernel) ⟨Nat.le_of_ble_eq_true rfl, Nat.le_of_ble_eq_true rfl⟩, hts (.static yX3_lowestBit) (by decide +kernel), trivial⟩) rfl hl.1 rfl (Nat.le_of_ble_eq_true rfl) ⟨Nat.zero_le _, Nat.zero_le _⟩ dX2_takeInBlock_47 (fun r_7 H locs hw_8 hP hS => ?_)
      try dsimp only at hw_8
      obtain rfl : r_7 = (nI (sl - 32 * (p / 32))) := by rw [hw_8]; exact congrArg nI (low_of hm (by omega) (by rw [show 32 * (p / 32) + (sl - 32 * (p / 32)) = sl by omega, hs3]; exact decide_eq_true (p := p ≤ sl ∧ sl < p + z) ⟨hs1, hs2⟩) hs4)
      refine lv_iadd hx hb dX2_takeInBlock_50 ?_
      refine n_as (x' := (nI sl)) (by rw [nI_add]; exact congrArg nI (by omega)) ?_
      refine lv_istore (lv' := [(4, .int (nI sl)), (3, .int (((V 3) (p / 32)) &&& rr)), (2, .int (nI (p / 32))), (0, .ref (a 0)), (1, .int (nI kb))]) hx hb dX2_takeInBlock_51 hl (by decide) rfl (fun ls hl => ?_)
      refine lv_aload_n hx hb dX2_takeInBlock_53 rfl (lv_at hl 3 rfl) ?_
      refine lv_iload_n hx hb dX2_takeInBlock_54 rfl (lv_at hl 2 rfl) ?_
      refine lv_iload hx hb dX2_takeInBlock_55 (lv_at hl 0 rfl) ?_
      refine cl_N0 (As := [.int (nI sl)]) (rest := [.int (nI (p / 32)), .ref (a 0)]) F hK hA hP hD hS (c_X3_bitOf (by omega)) (⟨va_cnB 1 hts gX2_takeInBlock_X3_bitOf_n54 rfl rfl rfl (hK.2 (.methodLinkNest RX2 54 yX3_bitOf RX3) (by decide +kernel)) (hts (.initialized RX3) (by decide +kernel)) (by decide +kernel) ⟨Nat.le_of_ble_eq_true rfl, Nat.le_of_ble_eq_true rfl⟩, hts (.static yX3_bitOf) (by decide +kernel), trivial⟩) rfl hl.1 rfl (Nat.le_of_ble_eq_true rfl) ⟨Nat.zero_le _, Nat.zero_le _⟩ dX2_takeInBlock_57 (fun r_9 H locs hw_10 hP hS => ?_)
      try dsimp only at hw_10
      obtain rfl : r_9 = (b1 (sl % 32)) := hw_10
      refine lv_iconst (v := (nI 3)) hx hb dX2_takeInBlock_60 (by decide) ?_
      refine lv_iconst (v := (nI 1)) hx hb dX2_takeInBlock_61 (by decide) ?_
      refine cl_Vv (b := (a 0)) (As := [.int (nI (p / 32)), .int (b1 (sl % 32)), .int (nI 3), .int (nI 1)]) (rest := []) (wc := SW a cI cG V) (wsN := fun (V9 : Nat → Nat → Int32) => SW a cI cG V9) F hK hA hP hD hS (c_X2_change R (by omega) (by decide) (by decide) (by decide) (fun i hi h => by rw [b1_bt (by omega) hi, decide_eq_true_iff] at h; rw [h, show 32 * (p / 32) + sl % 32 = sl by omega]; exact hs3)) (cwV 4 hts gX2_takeInBlock_X2_change rfl rfl rfl (by decide +kernel) ⟨Nat.le_of_ble_eq_true rfl, Nat.le_of_ble_eq_true rfl⟩) [0, 1, 2, 3, 4, 5, 6, 7] [] [0, 1, 2, 3, 4, 5, 6, 7] ([]) rfl rfl (fun _ => rfl) (by decide) (by decide) 0 rfl rfl rfl hl.1 rfl (Nat.le_of_ble_eq_true rfl) ⟨Nat.zero_le _, Nat.zero_le _⟩ dX2_takeInBlock_62 (fun V9 H locs hw_11 hP hD hS => ?_)
      try dsimp only at hw_11 hP hD
      have R3 : RepS (bc1 f sl (nI 1)) V9 := by rw [← mP_one (w := p / 32) (by omega) (by omega)]; exact hw_11
      refine lv_iload hx hb dX2_takeInBlock_65 (lv_at hl 0 rfl) ?_
      exact RETN _ _ (nI sl) V9 _ _ dX2_takeInBlock_67 (rfl) (by rw [tiA_s hkb (bI_ct c5) hp hzz hpz, ho]; exact ⟨rfl, R3⟩) hP hD hS
    · skip
      replace c36 : (((V 3) (p / 32)) &&& rr) = nI 0 := c36
      have hnone : kp f p z = none := by
        cases q : kp f p z with
        | none => rfl
        | some s9 =>
          obtain ⟨g1, g2, g3, -⟩ := hk1 s9 q
          have g4 := (zero_of hm).mp c36 (s9 - 32 * (p / 32)) (by omega)
          rw [show 32 * (p / 32) + (s9 - 32 * (p / 32)) = s9 by omega, g3, decide_eq_true (p := p ≤ s9 ∧ s9 < p + z) ⟨g1, g2⟩] at g4
          exact absurd g4 (by decide)
      refine lv_bipush (v := (-3)) hx hb dX2_takeInBlock_39 (by decide) ?_
      exact RETN _ _ (-3) V _ _ dX2_takeInBlock_41 (rfl) (by rw [tiA_s hkb (bI_ct c5) hp hzz hpz, hnone]; exact ⟨rfl, R⟩) hP hD hS
  · skip
    replace c5 : (bI (isB f v)) = nI 0 := c5
    refine lv_iconst (v := (-1)) hx hb dX2_takeInBlock_8 (by decide) ?_
    exact RETN _ _ (-1) V _ _ dX2_takeInBlock_9 (rfl) (by rw [tiA_n (bI_cf c5)]; exact ⟨rfl, R⟩) hP hD hS
set_option maxHeartbeats 4000000 in
set_option maxRecDepth 100000 in
theorem c_X2_giveUpBlock {l : Launch} {D : va_G} {cI cG cC cR : ClassId} {a : Nat → Nat} {f : Nat → Int32} {V : Nat → Nat → Int32} {v : Int32} (R : RepS f V) (hB : BInv f) (hz : BZ f) : CtI l yX2_giveUpBlock wsX2_giveUpBlock { frames := 3, cells := 0, slots := 0, locals := 70 } D (TY cI cG cC cR) [.ref (a 0), .int v] (SW a cI cG V) (fun (u : Nat → Nat → Int32) => SW a cI cG u) (fun (r : Int32) (u : Nat → Nat → Int32) => r = (guA f v).1 ∧ RepS (guA f v).2 u) := by
  refine CtI.of (cc := cX2_giveUpBlock) (maxL := 4) (ty := .int) (by decide) rfl (Nat.le_of_ble_eq_true rfl) ?_
  intro P0 e0 s0 m0 a0 b0 t0 c0 A0 Q0 ls F hK hP hD hA RETN hl
  obtain ⟨hx, hb, hml, hown, hts⟩ := id F
  have hS : va_S A0 s0.heap s0.heap [] := va_S.rf
  have hl : lv_has ls 4 [(0, .ref (a 0)), (1, .int v)] := hl
  have lk11 := hts (.fieldLink RX2 11 "SlotMaps$Slots" "bits" "[[I") (by decide +kernel)
  have lk16 := hts (.fieldLink RX2 16 "SlotMaps$Slots" "blockFirst" "[I") (by decide +kernel)
  have lk20 := hts (.fieldLink RX2 20 "SlotMaps$Slots" "blockSize" "[I") (by decide +kernel)
  have hI2 : ∀ w ∈ u_ws RX2 TX2 5, w ∈ wsX2_giveUpBlock := by decide +kernel
  refine lv_aload_n hx hb dX2_giveUpBlock_0 rfl (lv_at hl 0 rfl) ?_
  refine lv_iload_n hx hb dX2_giveUpBlock_1 rfl (lv_at hl 1 rfl) ?_
  refine cl_Vi (b := (a 0)) (As := [.int v]) (rest := []) (wc := SW a cI cG V) (wsN := fun (_ : Unit) => SW a cI cG V) F hK hA hP hD hS (c_X2_hasBlock R.2.2.2 hz) (cwV 1 hts gX2_giveUpBlock_X2_hasBlock rfl rfl rfl (by decide +kernel) ⟨Nat.le_of_ble_eq_true rfl, Nat.le_of_ble_eq_true rfl⟩) [0, 1, 2, 3, 4, 5, 6, 7] [] [0, 1, 2, 3, 4, 5, 6, 7] ([]) rfl rfl (fun _ => rfl) (by decide) (by decide) 0 rfl rfl rfl hl.1 rfl (Nat.le_of_ble_eq_true rfl) ⟨Nat.zero_le _, Nat.zero_le _⟩ dX2_giveUpBlock_2 (fun r_2 _ H locs hw_1 hP hD hS => ?_)
  try dsimp only at hw_1 hP hD
  obtain rfl : r_2 = (bI (isB f v)) := hw_1
  refine lv_if_ne (tgt := 10) hx hb dX2_giveUpBlock_5 (by decide) (fun c5 => ?_) (fun c5 => ?_)
  · skip
    replace c5 : ¬ (bI (isB f v)) = nI 0 := c5
    obtain ⟨kb, hkb, rfl, h0⟩ := isB_t (bI_ct c5)
    obtain ⟨p, z, hp, hzz, hok, hmod, hpz⟩ := hB kb (by omega) h0
    have hzl := okz_le hok
    have he := blk_end hok hmod
    have h5 : V 5 kb = nI z := (R.2.2.2 kb (by omega)).1.trans hzz
    have h4 : V 4 kb = nI p := ((R.2.2.2 kb (by omega)).2.2 (by rw [h5, nI_eq (by omega) (by decide)]; omega)).trans hp
    refine lv_aload_n hx hb dX2_giveUpBlock_10 rfl (lv_at hl 0 rfl) ?_
    refine va_get (D := D) (ci := 2) (v := .ref (a 2)) (C := RX2) (T := TX2) (N := 5) hx hb hts hI2 hown hK.1 hP 0 rfl rfl 1 (by decide) lk16 (fun _ h9 => h9) rfl dX2_giveUpBlock_11 ?_
    refine lv_iload_n hx hb dX2_giveUpBlock_14 rfl (lv_at hl 1 rfl) ?_
    refine n_iald hx hb hK hP 2 0 rfl rfl (by decide) (by omega) dX2_giveUpBlock_15 ?_
    refine n_as (x' := (nI p)) (h4) ?_
    refine cl_N0 (As := [.int (nI p)]) (rest := []) F hK hA hP hD hS (c_X3_wordOf (by omega)) (⟨va_cnB 1 hts gX2_giveUpBlock_X3_wordOf_n70 rfl rfl rfl (hK.2 (.methodLinkNest RX2 70 yX3_wordOf RX3) (by decide +kernel)) (hts (.initialized RX3) (by decide +kernel)) (by decide +kernel) ⟨Nat.le_of_ble_eq_true rfl, Nat.le_of_ble_eq_true rfl⟩, hts (.static yX3_wordOf) (by decide +kernel), trivial⟩) rfl hl.1 rfl (Nat.le_of_ble_eq_true rfl) ⟨Nat.zero_le _, Nat.zero_le _⟩ dX2_giveUpBlock_16 (fun r_3 H locs hw_4 hP hS => ?_)
    try dsimp only at hw_4
    obtain rfl : r_3 = (nI (p / 32)) := hw_4
    refine lv_istore_n (lv' := [(2, .int (nI (p / 32))), (0, .ref (a 0)), (1, .int (nI kb))]) hx hb dX2_giveUpBlock_19 rfl hl (by decide) rfl (fun ls hl => ?_)
    refine lv_aload_n hx hb dX2_giveUpBlock_20 rfl (lv_at hl 1 rfl) ?_
    refine va_get (D := D) (ci := 2) (v := .ref (a 1)) (C := RX2) (T := TX2) (N := 5) hx hb hts hI2 hown hK.1 hP 0 rfl rfl 0 (by decide) lk11 (fun _ h9 => h9) rfl dX2_giveUpBlock_21 ?_
    refine lv_iconst (v := (nI 3)) hx hb dX2_giveUpBlock_24 (by decide) ?_
    refine n_aald (b := a 7) hx hb hK hP 1 1 rfl rfl (by decide) (by decide) rfl dX2_giveUpBlock_25 ?_
    refine lv_iload_n hx hb dX2_giveUpBlock_26 rfl (lv_at hl 0 rfl) ?_
    refine n_iald hx hb hK hP 7 0 rfl rfl (by decide) (by omega) dX2_giveUpBlock_27 ?_
    refine lv_aload_n hx hb dX2_giveUpBlock_28 rfl (lv_at hl 1 rfl) ?_
    refine lv_iload_n hx hb dX2_giveUpBlock_29 rfl (lv_at hl 2 rfl) ?_
    refine cl_Vi (b := (a 0)) (As := [.int (nI kb)]) (rest := [.int ((V 3) (p / 32))]) (wc := SW a cI cG V) (wsN := fun (_ : Unit) => SW a cI cG V) F hK hA hP hD hS (c_X2_blockBits (by omega) h4 h5 (by omega) (by omega)) (cwV 1 hts gX2_giveUpBlock_X2_blockBits rfl rfl rfl (by decide +kernel) ⟨Nat.le_of_ble_eq_true rfl, Nat.le_of_ble_eq_true rfl⟩) [0, 1, 2, 3, 4, 5, 6, 7] [] [0, 1, 2, 3, 4, 5, 6, 7] ([]) rfl rfl (fun _ => rfl) (by decide) (by decide) 0 rfl rfl rfl hl.1 rfl (Nat.le_of_ble_eq_true rfl) ⟨Nat.zero_le _, Nat.zero_le _⟩ dX2_giveUpBlock_30 (fun rr _ H locs hw_5 hP hD hS => ?_)
    try dsimp only at hw_5 hP hD
    have hrr := hw_5
    have hm : ∀ i, i < 32 → bt (V 3 (p / 32) &&& rr) i = (decide (f (32 * (p / 32) + i) = nI 3) && decide (p ≤ 32 * (p / 32) + i ∧ 32 * (p / 32) + i < p + z)) := fun i hi => by rw [b_and, R.1 3 _ i (by decide) (by omega) hi, hrr i hi]
    obtain ⟨hk1, hk2⟩ := kp_word (f := f) (p := p) (z := z) (w := p / 32) (by omega) he
    refine lv_iand hx hb dX2_giveUpBlock_33 ?_
    refine lv_istore_n (lv' := [(3, .int (((V 3) (p / 32)) &&& rr)), (2, .int (nI (p / 32))), (0, .ref (a 0)), (1, .int (nI kb))]) hx hb dX2_giveUpBlock_34 rfl hl (by decide) rfl (fun ls hl => ?_)
    refine lv_aload_n hx hb dX2_giveUpBlock_35 rfl (lv_at hl 2 rfl) ?_
    refine lv_iload_n hx hb dX2_giveUpBlock_36 rfl (lv_at hl 1 rfl) ?_
    refine lv_iload_n hx hb dX2_giveUpBlock_37 rfl (lv_at hl 0 rfl) ?_
    refine lv_iconst (v := (nI 3)) hx hb dX2_giveUpBlock_38 (by decide) ?_
    refine lv_iconst (v := (nI 0)) hx hb dX2_giveUpBlock_39 (by decide) ?_
    refine cl_Vv (b := (a 0)) (As := [.int (nI (p / 32)), .int (((V 3) (p / 32)) &&& rr), .int (nI 3), .int (nI 0)]) (rest := []) (wc := SW a cI cG V) (wsN := fun (V9 : Nat → Nat → Int32) => SW a cI cG V9) F hK hA hP hD hS (c_X2_change (RepS_own (x := nI 0) R hpz) (by omega) (by decide) (by decide) (by decide) (fun i hi h => by rw [hm i hi, Bool.and_eq_true, decide_eq_true_iff] at h; rw [ow_slot (by omega)]; exact h.1)) (cwV 4 hts gX2_giveUpBlock_X2_change rfl rfl rfl (by decide +kernel) ⟨Nat.le_of_ble_eq_true rfl, Nat.le_of_ble_eq_true rfl⟩) [0, 1, 2, 3, 4, 5, 6, 7] [] [0, 1, 2, 3, 4, 5, 6, 7] ([]) rfl rfl (fun _ => rfl) (by decide) (by decide) 0 rfl rfl rfl hl.1 rfl (Nat.le_of_ble_eq_true rfl) ⟨Nat.zero_le _, Nat.zero_le _⟩ dX2_giveUpBlock_40 (fun V9 H locs hw_7 hP hD hS => ?_)
    try dsimp only at hw_7 hP hD
    have R3 : RepS (guF f p z) V9 := by rw [← gu_word he (by omega) hm]; exact hw_7
    refine lv_aload_n hx hb dX2_giveUpBlock_43 rfl (lv_at hl 2 rfl) ?_
    refine va_get (D := D) (ci := 2) (v := .ref (a 3)) (C := RX2) (T := TX2) (N := 5) hx hb hts hI2 hown hK.1 hP 0 rfl rfl 2 (by decide) lk20 (fun _ h9 => h9) rfl dX2_giveUpBlock_44 ?_
    refine lv_iload_n hx hb dX2_giveUpBlock_47 rfl (lv_at hl 3 rfl) ?_
    refine lv_iconst (v := (nI 0)) hx hb dX2_giveUpBlock_48 (by decide) ?_
    refine n_iast hx hb hK hP hD hS 3 0 rfl rfl (by decide) (by omega) dX2_giveUpBlock_49 (wsN := SW a cI cG (vset V9 5 (upd (V9 5) kb (nI 0)))) rfl (fun H locs hP hD hS => ?_)
    obtain ⟨V_9, hV_9⟩ : ∃ z9, z9 = (vset V9 5 (upd (V9 5) kb (nI 0))) := ⟨_, rfl⟩
    rw [← hV_9] at hP hD
    have R4 := RepS_gone (b := kb) R3 (by omega) hV_9
    refine lv_iload_n hx hb dX2_giveUpBlock_50 rfl (lv_at hl 0 rfl) ?_
    refine cl_S0 (As := [.int (((V 3) (p / 32)) &&& rr)]) (rest := []) F hK hA hP hD hS (c_J6_bitCount_0f7a4) (va_cwS 1 hts gX2_giveUpBlock_J6_bitCount_0f7a4 rfl rfl rfl (by decide +kernel) ⟨Nat.le_of_ble_eq_true rfl, Nat.le_of_ble_eq_true rfl⟩) rfl hl.1 rfl (Nat.le_of_ble_eq_true rfl) ⟨Nat.zero_le _, Nat.zero_le _⟩ dX2_giveUpBlock_51 (fun r_10 H locs hw_11 hP hS => ?_)
    try dsimp only at hw_11
    obtain rfl : r_10 = (nI (guN f p z)) := by rw [hw_11]; exact congrArg nI ((pc_of (fun i hi => by rw [hm i hi, Bool.and_comm])).trans (ct_win (q := fun j => decide (f j = nI 3)) (by omega) he))
    exact RETN _ _ (nI (guN f p z)) V_9 _ _ dX2_giveUpBlock_54 (rfl) (by rw [guA_s hkb (bI_ct c5) hp hzz hpz]; exact ⟨rfl, R4⟩) hP hD hS
  · skip
    replace c5 : (bI (isB f v)) = nI 0 := c5
    refine lv_iconst (v := (-1)) hx hb dX2_giveUpBlock_8 (by decide) ?_
    exact RETN _ _ (-1) V _ _ dX2_giveUpBlock_9 (rfl) (by rw [guA_n (bI_cf c5)]; exact ⟨rfl, R⟩) hP hD hS
set_option maxHeartbeats 4000000 in
set_option maxRecDepth 100000 in
theorem c_X2_damageBit {l : Launch} {D : va_G} {cI cG cC cR : ClassId} {a : Nat → Nat} {f : Nat → Int32} {V : Nat → Nat → Int32} {v : Int32} (R : RepS f V) (hbt : Bits f) : CtI l yX2_damageBit wsX2_damageBit { frames := 1, cells := 0, slots := 0, locals := 21 } D (TY cI cG cC cR) [.ref (a 0), .int v] (SW a cI cG V) (fun (u : Nat → Nat → Int32) => SW a cI cG u) (fun (r : Int32) (u : Nat → Nat → Int32) => r = (dmA f v).1 ∧ RepS (dmA f v).2 u) := by
  refine CtI.of (cc := cX2_damageBit) (maxL := 2) (ty := .int) (by decide) rfl (Nat.le_of_ble_eq_true rfl) ?_
  intro P0 e0 s0 m0 a0 b0 t0 c0 A0 Q0 ls F hK hP hD hA RETN hl
  obtain ⟨hx, hb, hml, hown, hts⟩ := id F
  have hS : va_S A0 s0.heap s0.heap [] := va_S.rf
  have hl : lv_has ls 2 [(0, .ref (a 0)), (1, .int v)] := hl
  have lk23 := hts (.fieldLink RX2 23 "SlotMaps$Slots" "summary" "I") (by decide +kernel)
  have hI2 : ∀ w ∈ u_ws RX2 TX2 5, w ∈ wsX2_damageBit := by decide +kernel
  refine lv_iload_n hx hb dX2_damageBit_0 rfl (lv_at hl 1 rfl) ?_
  refine lv_if_lt (tgt := 10) hx hb dX2_damageBit_1 (by decide) (fun c1 => ?_) (fun c1 => ?_)
  · skip
    refine lv_iconst (v := (-1)) hx hb dX2_damageBit_10 (by decide) ?_
    exact RETN _ _ (-1) V _ _ dX2_damageBit_11 (rfl) (by first | (rw [dmA_n (inB_f1 c1)]; exact ⟨rfl, R⟩) | (rw [dmA_n (inB_f2 (dm_ge c7))]; exact ⟨rfl, R⟩)) hP hD hS
  · skip
    refine lv_iload_n hx hb dX2_damageBit_4 rfl (lv_at hl 1 rfl) ?_
    refine lv_bipush (v := (nI 10)) hx hb dX2_damageBit_5 (by decide) ?_
    refine lv_icmp_lt (tgt := 12) hx hb dX2_damageBit_7 (by decide) (fun c7 => ?_) (fun c7 => ?_)
    · skip
      obtain ⟨w, hlo_w, hhi_w, rfl⟩ := inB_nat (by decide) (by decide) (inB_t (hi := nI 9) c1 (dm_lt c7))
      refine lv_aload_n hx hb dX2_damageBit_12 rfl (lv_at hl 0 rfl) ?_
      refine lv_dup hx hb dX2_damageBit_13 rfl ?_
      refine va_get (D := D) (ci := 2) (v := .int (V 6 0)) (C := RX2) (T := TX2) (N := 5) hx hb hts hI2 hown hK.1 hP 0 rfl rfl 3 (by decide) lk23 (fun _ h9 => h9) rfl dX2_damageBit_14 ?_
      refine lv_iconst (v := (nI 1)) hx hb dX2_damageBit_17 (by decide) ?_
      refine lv_iload_n hx hb dX2_damageBit_18 rfl (lv_at hl 1 rfl) ?_
      refine lv_ishl hx hb dX2_damageBit_19 ?_
      refine lv_ixor hx hb dX2_damageBit_20 ?_
      refine va_put (D := D) (ci := 2) (v := .int ((V 6 0) ^^^ ((nI 1) <<< ((nI w) &&& 31)))) (ty := .int) (C := RX2) (T := TX2) (N := 5) hx hb hts hI2 tyX2 tyX2_ok nmX2 hown hK.1 hP hD hS 0 rfl rfl 3 (by decide) lk23 (fun _ h9 => h9) rfl (by decide +kernel) rfl rfl (Nat.le_of_ble_eq_true rfl) dX2_damageBit_21 (fun H locs hP hD hS => ?_)
      have hP : va_P D vwCl (SW a cI cG (vset V 6 (upd (V 6) 0 ((V 6 0) ^^^ ((nI 1) <<< ((nI w) &&& 31)))))) H := hP
      have hD : va_D A0 (SW a cI cG (vset V 6 (upd (V 6) 0 ((V 6 0) ^^^ ((nI 1) <<< ((nI w) &&& 31)))))) := hD
      obtain ⟨V_1, hV_1⟩ : ∃ z9, z9 = (vset V 6 (upd (V 6) 0 ((V 6 0) ^^^ ((nI 1) <<< ((nI w) &&& 31))))) := ⟨_, rfl⟩
      rw [← hV_1] at hP hD
      refine lv_aload_n hx hb dX2_damageBit_24 rfl (lv_at hl 0 rfl) ?_
      refine lv_iload_n hx hb dX2_damageBit_25 rfl (lv_at hl 1 rfl) ?_
      refine cl_Vi (b := (a 0)) (As := [.int (nI w)]) (rest := []) (wc := SW a cI cG V_1) (wsN := fun (_ : Unit) => SW a cI cG V_1) F hK hA hP hD hS (c_X2_summaryBit (by omega)) (cwV 1 hts gX2_damageBit_X2_summaryBit rfl rfl rfl (by decide +kernel) ⟨Nat.le_of_ble_eq_true rfl, Nat.le_of_ble_eq_true rfl⟩) [0, 1, 2, 3, 4, 5, 6, 7] [] [0, 1, 2, 3, 4, 5, 6, 7] ([]) rfl rfl (fun _ => rfl) (by decide) (by decide) 0 rfl rfl rfl hl.1 rfl (Nat.le_of_ble_eq_true rfl) ⟨Nat.zero_le _, Nat.zero_le _⟩ dX2_damageBit_26 (fun r_3 _ H locs hw_2 hP hD hS => ?_)
      try dsimp only at hw_2 hP hD
      obtain rfl : r_3 = (nI 1 - f (640 + w)) := by rw [hw_2]; exact dm_bit R hbt (by omega) hV_1
      exact RETN _ _ (nI 1 - f (640 + w)) V_1 _ _ dX2_damageBit_29 (rfl) (by rw [dmA_s (by omega)]; exact ⟨rfl, dm_rep R hbt (by omega) hV_1⟩) hP hD hS
    · skip
      refine lv_iconst (v := (-1)) hx hb dX2_damageBit_10 (by decide) ?_
      exact RETN _ _ (-1) V _ _ dX2_damageBit_11 (rfl) (by first | (rw [dmA_n (inB_f1 c1)]; exact ⟨rfl, R⟩) | (rw [dmA_n (inB_f2 (dm_ge c7))]; exact ⟨rfl, R⟩)) hP hD hS
set_option maxHeartbeats 4000000 in
set_option maxRecDepth 100000 in
theorem c_X2_repairBits {l : Launch} {D : va_G} {cI cG cC cR : ClassId} {a : Nat → Nat} {f : Nat → Int32} {V : Nat → Nat → Int32} (R : RepS f V) (hbt : Bits f) : CtI l yX2_repairBits wsX2_repairBits { frames := 2, cells := 0, slots := 0, locals := 43 } D (TY cI cG cC cR) [.ref (a 0)] (SW a cI cG V) (fun (u : Nat → Nat → Int32) => SW a cI cG u) (fun (r : Int32) (u : Nat → Nat → Int32) => r = (rpA f).1 ∧ RepS (rpA f).2 u) := by
  refine CtI.of (cc := cX2_repairBits) (maxL := 3) (ty := .int) (by decide) rfl (Nat.le_of_ble_eq_true rfl) ?_
  intro P0 e0 s0 m0 a0 b0 t0 c0 A0 Q0 ls F hK hP hD hA RETN hl
  obtain ⟨hx, hb, hml, hown, hts⟩ := id F
  have hS : va_S A0 s0.heap s0.heap [] := va_S.rf
  have hl : lv_has ls 3 [(0, .ref (a 0))] := hl
  have lk23 := hts (.fieldLink RX2 23 "SlotMaps$Slots" "summary" "I") (by decide +kernel)
  have hI2 : ∀ w ∈ u_ws RX2 TX2 5, w ∈ wsX2_repairBits := by decide +kernel
  refine lv_aload_n hx hb dX2_repairBits_0 rfl (lv_at hl 0 rfl) ?_
  refine cl_Vi (b := (a 0)) (As := []) (rest := []) (wc := SW a cI cG V) (wsN := fun (_ : Unit) => SW a cI cG V) F hK hA hP hD hS (c_X2_rightSummary R.1) (cwV 0 hts gX2_repairBits_X2_rightSummary rfl rfl rfl (by decide +kernel) ⟨Nat.le_of_ble_eq_true rfl, Nat.le_of_ble_eq_true rfl⟩) [0, 1, 2, 3, 4, 5, 6, 7] [] [0, 1, 2, 3, 4, 5, 6, 7] ([]) rfl rfl (fun _ => rfl) (by decide) (by decide) 0 rfl rfl rfl hl.1 rfl (Nat.le_of_ble_eq_true rfl) ⟨Nat.zero_le _, Nat.zero_le _⟩ dX2_repairBits_1 (fun rr _ H locs hw_1 hP hD hS => ?_)
  try dsimp only at hw_1 hP hD
  have hrr := hw_1
  refine lv_istore_n (lv' := [(1, .int rr), (0, .ref (a 0))]) hx hb dX2_repairBits_4 rfl hl (by decide) rfl (fun ls hl => ?_)
  refine lv_aload_n hx hb dX2_repairBits_5 rfl (lv_at hl 1 rfl) ?_
  refine va_get (D := D) (ci := 2) (v := .int (V 6 0)) (C := RX2) (T := TX2) (N := 5) hx hb hts hI2 hown hK.1 hP 0 rfl rfl 3 (by decide) lk23 (fun _ h9 => h9) rfl dX2_repairBits_6 ?_
  refine lv_iload_n hx hb dX2_repairBits_9 rfl (lv_at hl 0 rfl) ?_
  refine lv_ixor hx hb dX2_repairBits_10 ?_
  refine cl_S0 (As := [.int ((V 6 0) ^^^ rr)]) (rest := []) F hK hA hP hD hS (c_J6_bitCount_0f7a4) (va_cwS 1 hts gX2_repairBits_J6_bitCount_0f7a4 rfl rfl rfl (by decide +kernel) ⟨Nat.le_of_ble_eq_true rfl, Nat.le_of_ble_eq_true rfl⟩) rfl hl.1 rfl (Nat.le_of_ble_eq_true rfl) ⟨Nat.zero_le _, Nat.zero_le _⟩ dX2_repairBits_11 (fun r_3 H locs hw_4 hP hS => ?_)
  try dsimp only at hw_4
  obtain rfl : r_3 = (nI (rpN f 10)) := by rw [hw_4]; exact congrArg nI (rp_pc R hbt hrr)
  refine lv_istore_n (lv' := [(2, .int (nI (rpN f 10))), (1, .int rr), (0, .ref (a 0))]) hx hb dX2_repairBits_14 rfl hl (by decide) rfl (fun ls hl => ?_)
  refine lv_aload_n hx hb dX2_repairBits_15 rfl (lv_at hl 2 rfl) ?_
  refine lv_iload_n hx hb dX2_repairBits_16 rfl (lv_at hl 1 rfl) ?_
  refine va_put (D := D) (ci := 2) (v := .int rr) (ty := .int) (C := RX2) (T := TX2) (N := 5) hx hb hts hI2 tyX2 tyX2_ok nmX2 hown hK.1 hP hD hS 0 rfl rfl 3 (by decide) lk23 (fun _ h9 => h9) rfl (by decide +kernel) rfl rfl (Nat.le_of_ble_eq_true rfl) dX2_repairBits_17 (fun H locs hP hD hS => ?_)
  have hP : va_P D vwCl (SW a cI cG (vset V 6 (upd (V 6) 0 rr))) H := hP
  have hD : va_D A0 (SW a cI cG (vset V 6 (upd (V 6) 0 rr))) := hD
  obtain ⟨V_5, hV_5⟩ : ∃ z9, z9 = (vset V 6 (upd (V 6) 0 rr)) := ⟨_, rfl⟩
  rw [← hV_5] at hP hD
  refine lv_iload_n hx hb dX2_repairBits_20 rfl (lv_at hl 0 rfl) ?_
  exact RETN _ _ (nI (rpN f 10)) V_5 _ _ dX2_repairBits_21 (rfl) (⟨rfl, rp_rep R hrr hV_5⟩) hP hD hS
set_option maxHeartbeats 4000000 in
set_option maxRecDepth 100000 in
theorem c_X2_reachable {l : Launch} {D : va_G} {cI cG cC cR : ClassId} {a : Nat → Nat} {f : Nat → Int32} {V : Nat → Nat → Int32} (R : RepS f V) (hbt : Bits f) : CtI l yX2_reachable wsX2_reachable { frames := 1, cells := 0, slots := 0, locals := 21 } D (TY cI cG cC cR) [.ref (a 0)] (SW a cI cG V) (fun (_ : Unit) => SW a cI cG V) (fun (r : Int32) (_ : Unit) => r = nI (reach f)) := by
  refine CtI.of (cc := cX2_reachable) (maxL := 3) (ty := .int) (by decide) rfl (Nat.le_of_ble_eq_true rfl) ?_
  intro P0 e0 s0 m0 a0 b0 t0 c0 A0 Q0 ls F hK hP hD hA RETN hl
  obtain ⟨hx, hb, hml, hown, hts⟩ := id F
  have hS : va_S A0 s0.heap s0.heap [] := va_S.rf
  have hl : lv_has ls 3 [(0, .ref (a 0))] := hl
  have lk11 := hts (.fieldLink RX2 11 "SlotMaps$Slots" "bits" "[[I") (by decide +kernel)
  have hI2 : ∀ w ∈ u_ws RX2 TX2 5, w ∈ wsX2_reachable := by decide +kernel
  refine lv_iconst (v := (nI 0)) hx hb dX2_reachable_0 (by decide) ?_
  refine lv_istore_n (lv' := [(1, .int (nI 0)), (0, .ref (a 0))]) hx hb dX2_reachable_1 rfl hl (by decide) rfl (fun ls hl => ?_)
  refine lv_iconst (v := (nI 0)) hx hb dX2_reachable_2 (by decide) ?_
  refine lv_istore_n (lv' := [(2, .int (nI 0)), (1, .int (nI 0)), (0, .ref (a 0))]) hx hb dX2_reachable_3 rfl hl (by decide) rfl (fun ls hl => ?_)
  have LP4 : ∀ (nn : Nat) (w : Nat) (n : Nat) (H : Heap) (locs : List Loc) (ls : Array Slot), (w ≤ 10) → (n = fb_sm (rc f) w) → 10 - w < nn → va_P D vwCl (SW a cI cG V) H → va_D A0 (SW a cI cG V) → va_S A0 s0.heap H locs → lv_has ls 3 [(2, .int (nI w)), (1, .int (nI n)), (0, .ref (a 0))] → W P0 l e0 { frames := 1, cells := 0, slots := 0, locals := 21 } s0 m0 a0 b0 t0 c0 H locs 0 0 Q0 (F0 m0 4 ls []) := by
    intro nn
    induction nn with
    | zero => intro w n H locs ls hw hn hmu; exact absurd hmu (Nat.not_lt_zero _)
    | succ nn ih4 =>
      intro w n H locs ls hw hn hmu4 hP hD hS hl
      refine lv_iload_n hx hb dX2_reachable_4 rfl (lv_at hl 0 rfl) ?_
      refine lv_bipush (v := (nI 10)) hx hb dX2_reachable_5 (by decide) ?_
      refine lv_icmp_ge (tgt := 58) hx hb dX2_reachable_7 (by decide) (fun c7 => ?_) (fun c7 => ?_)
      · skip
        replace c7 : 10 ≤ w := by rw [nI_leI (by omega) (by omega)] at c7; exact c7
        refine lv_iload_n hx hb dX2_reachable_58 rfl (lv_at hl 1 rfl) ?_
        exact RETN _ _ (nI n) () _ _ dX2_reachable_59 (rfl) (by rw [hn, show w = 10 by omega]; rfl) hP hD hS
      · skip
        replace c7 : ¬ (10 ≤ w) := by rw [nI_leI (by omega) (by omega)] at c7; exact c7
        refine lv_aload_n hx hb dX2_reachable_10 rfl (lv_at hl 2 rfl) ?_
        refine lv_iload_n hx hb dX2_reachable_11 rfl (lv_at hl 0 rfl) ?_
        refine cl_Vi (b := (a 0)) (As := [.int (nI w)]) (rest := []) (wc := SW a cI cG V) (wsN := fun (_ : Unit) => SW a cI cG V) F hK hA hP hD hS (c_X2_summaryBit (by omega)) (cwV 1 hts gX2_reachable_X2_summaryBit rfl rfl rfl (by decide +kernel) ⟨Nat.le_of_ble_eq_true rfl, Nat.le_of_ble_eq_true rfl⟩) [0, 1, 2, 3, 4, 5, 6, 7] [] [0, 1, 2, 3, 4, 5, 6, 7] ([]) rfl rfl (fun _ => rfl) (by decide) (by decide) 0 rfl rfl rfl hl.1 rfl (Nat.le_of_ble_eq_true rfl) ⟨Nat.zero_le _, Nat.zero_le _⟩ dX2_reachable_12 (fun r_2 _ H locs hw_1 hP hD hS => ?_)
        try dsimp only at hw_1 hP hD
        obtain rfl : r_2 = (bI (bt (V 6 0) w)) := hw_1
        refine lv_if_eq (tgt := 29) hx hb dX2_reachable_15 (by decide) (fun c15 => ?_) (fun c15 => ?_)
        · skip
          replace c15 : (bI (bt (V 6 0) w)) = nI 0 := c15
          refine lv_iload_n hx hb dX2_reachable_29 rfl (lv_at hl 1 rfl) ?_
          refine lv_aload_n hx hb dX2_reachable_30 rfl (lv_at hl 2 rfl) ?_
          refine va_get (D := D) (ci := 2) (v := .ref (a 1)) (C := RX2) (T := TX2) (N := 5) hx hb hts hI2 hown hK.1 hP 0 rfl rfl 0 (by decide) lk11 (fun _ h9 => h9) rfl dX2_reachable_31 ?_
          refine lv_iconst (v := (nI 0)) hx hb dX2_reachable_34 (by decide) ?_
          refine n_aald (b := a 4) hx hb hK hP 1 1 rfl rfl (by decide) (by decide) rfl dX2_reachable_35 ?_
          refine lv_iload_n hx hb dX2_reachable_36 rfl (lv_at hl 0 rfl) ?_
          refine n_iald hx hb hK hP 4 0 rfl rfl (by decide) (by omega) dX2_reachable_37 ?_
          refine lv_aload_n hx hb dX2_reachable_38 rfl (lv_at hl 2 rfl) ?_
          refine va_get (D := D) (ci := 2) (v := .ref (a 1)) (C := RX2) (T := TX2) (N := 5) hx hb hts hI2 hown hK.1 hP 0 rfl rfl 0 (by decide) lk11 (fun _ h9 => h9) rfl dX2_reachable_39 ?_
          refine lv_iconst (v := (nI 2)) hx hb dX2_reachable_42 (by decide) ?_
          refine n_aald (b := a 6) hx hb hK hP 1 1 rfl rfl (by decide) (by decide) rfl dX2_reachable_43 ?_
          refine lv_iload_n hx hb dX2_reachable_44 rfl (lv_at hl 0 rfl) ?_
          refine n_iald hx hb hK hP 6 0 rfl rfl (by decide) (by omega) dX2_reachable_45 ?_
          refine lv_ior hx hb dX2_reachable_46 ?_
          refine cl_S0 (As := [.int (((V 0) w) ||| ((V 2) w))]) (rest := [.int (nI n)]) F hK hA hP hD hS (c_J6_bitCount_0f7a4) (va_cwS 1 hts gX2_reachable_J6_bitCount_0f7a4 rfl rfl rfl (by decide +kernel) ⟨Nat.le_of_ble_eq_true rfl, Nat.le_of_ble_eq_true rfl⟩) rfl hl.1 rfl (Nat.le_of_ble_eq_true rfl) ⟨Nat.zero_le _, Nat.zero_le _⟩ dX2_reachable_47 (fun r_3 H locs hw_4 hP hS => ?_)
          try dsimp only at hw_4
          obtain rfl : r_3 = (nI (cw f w (nI 0) + cw f w (nI 2))) := by rw [hw_4]; exact congrArg nI (rep_pc2 R.1 (by omega))
          refine lv_iadd hx hb dX2_reachable_50 ?_
          refine n_as (x' := nI (n + (cw f w (nI 0) + cw f w (nI 2)))) (nI_add _ _) ?_
          refine lv_istore_n (lv' := [(1, .int (nI (n + (cw f w (nI 0) + cw f w (nI 2))))), (2, .int (nI w)), (0, .ref (a 0))]) hx hb dX2_reachable_51 rfl hl (by decide) rfl (fun ls hl => ?_)
          refine lv_iinc (v := (nI (w + 1))) (lv' := [(2, .int (nI (w + 1))), (1, .int (nI (n + (cw f w (nI 0) + cw f w (nI 2))))), (0, .ref (a 0))]) hx hb dX2_reachable_52 hl (k := 1) rfl (n_inc1 _) (by decide) rfl (fun ls hl => ?_)
          refine lv_goto (tgt := 4) hx hb dX2_reachable_55 (by decide) ?_
          exact ih4 (w + 1) (n + (cw f w (nI 0) + cw f w (nI 2))) _ _ _ (by omega) (by rw [fb_sm_succ, ← hn]; unfold rc; rw [if_pos (Or.inl (sum_0 R hbt (by omega) c15))]) (by omega) hP hD hS (lv_sub hl [0, 1, 2] rfl)
        · skip
          replace c15 : ¬ (bI (bt (V 6 0) w)) = nI 0 := c15
          refine lv_aload_n hx hb dX2_reachable_18 rfl (lv_at hl 2 rfl) ?_
          refine va_get (D := D) (ci := 2) (v := .ref (a 1)) (C := RX2) (T := TX2) (N := 5) hx hb hts hI2 hown hK.1 hP 0 rfl rfl 0 (by decide) lk11 (fun _ h9 => h9) rfl dX2_reachable_19 ?_
          refine lv_iconst (v := (nI 2)) hx hb dX2_reachable_22 (by decide) ?_
          refine n_aald (b := a 6) hx hb hK hP 1 1 rfl rfl (by decide) (by decide) rfl dX2_reachable_23 ?_
          refine lv_iload_n hx hb dX2_reachable_24 rfl (lv_at hl 0 rfl) ?_
          refine n_iald hx hb hK hP 6 0 rfl rfl (by decide) (by omega) dX2_reachable_25 ?_
          refine lv_if_eq (tgt := 52) hx hb dX2_reachable_26 (by decide) (fun c26 => ?_) (fun c26 => ?_)
          · skip
            replace c26 : ((V 2) w) = nI 0 := c26
            have hz2 := (rep_zero R.1 (k := 2) (by decide) (by omega)).mp c26
            refine lv_iinc (v := (nI (w + 1))) (lv' := [(2, .int (nI (w + 1))), (1, .int (nI n)), (0, .ref (a 0))]) hx hb dX2_reachable_52 hl (k := 0) rfl (n_inc1 _) (by decide) rfl (fun ls hl => ?_)
            refine lv_goto (tgt := 4) hx hb dX2_reachable_55 (by decide) ?_
            exact ih4 (w + 1) n _ _ _ (by omega) (by rw [fb_sm_succ, ← hn]; unfold rc; rw [if_neg (fun q => q.elim (ne10 (sum_1 R (by omega) c15)) (by rw [hz2]; omega))]; rfl) (by omega) hP hD hS (lv_sub hl [0, 1, 2] rfl)
          · skip
            replace c26 : ¬ ((V 2) w) = nI 0 := c26
            refine lv_iload_n hx hb dX2_reachable_29 rfl (lv_at hl 1 rfl) ?_
            refine lv_aload_n hx hb dX2_reachable_30 rfl (lv_at hl 2 rfl) ?_
            refine va_get (D := D) (ci := 2) (v := .ref (a 1)) (C := RX2) (T := TX2) (N := 5) hx hb hts hI2 hown hK.1 hP 0 rfl rfl 0 (by decide) lk11 (fun _ h9 => h9) rfl dX2_reachable_31 ?_
            refine lv_iconst (v := (nI 0)) hx hb dX2_reachable_34 (by decide) ?_
            refine n_aald (b := a 4) hx hb hK hP 1 1 rfl rfl (by decide) (by decide) rfl dX2_reachable_35 ?_
            refine lv_iload_n hx hb dX2_reachable_36 rfl (lv_at hl 0 rfl) ?_
            refine n_iald hx hb hK hP 4 0 rfl rfl (by decide) (by omega) dX2_reachable_37 ?_
            refine lv_aload_n hx hb dX2_reachable_38 rfl (lv_at hl 2 rfl) ?_
            refine va_get (D := D) (ci := 2) (v := .ref (a 1)) (C := RX2) (T := TX2) (N := 5) hx hb hts hI2 hown hK.1 hP 0 rfl rfl 0 (by decide) lk11 (fun _ h9 => h9) rfl dX2_reachable_39 ?_
            refine lv_iconst (v := (nI 2)) hx hb dX2_reachable_42 (by decide) ?_
            refine n_aald (b := a 6) hx hb hK hP 1 1 rfl rfl (by decide) (by decide) rfl dX2_reachable_43 ?_
            refine lv_iload_n hx hb dX2_reachable_44 rfl (lv_at hl 0 rfl) ?_
            refine n_iald hx hb hK hP 6 0 rfl rfl (by decide) (by omega) dX2_reachable_45 ?_
            refine lv_ior hx hb dX2_reachable_46 ?_
            refine cl_S0 (As := [.int (((V 0) w) ||| ((V 2) w))]) (rest := [.int (nI n)]) F hK hA hP hD hS (c_J6_bitCount_0f7a4) (va_cwS 1 hts gX2_reachable_J6_bitCount_0f7a4 rfl rfl rfl (by decide +kernel) ⟨Nat.le_of_ble_eq_true rfl, Nat.le_of_ble_eq_true rfl⟩) rfl hl.1 rfl (Nat.le_of_ble_eq_true rfl) ⟨Nat.zero_le _, Nat.zero_le _⟩ dX2_reachable_47 (fun r_5 H locs hw_6 hP hS => ?_)
            try dsimp only at hw_6
            obtain rfl : r_5 = (nI (cw f w (nI 0) + cw f w (nI 2))) := by rw [hw_6]; exact congrArg nI (rep_pc2 R.1 (by omega))
            refine lv_iadd hx hb dX2_reachable_50 ?_
            refine n_as (x' := nI (n + (cw f w (nI 0) + cw f w (nI 2)))) (nI_add _ _) ?_
            refine lv_istore_n (lv' := [(1, .int (nI (n + (cw f w (nI 0) + cw f w (nI 2))))), (2, .int (nI w)), (0, .ref (a 0))]) hx hb dX2_reachable_51 rfl hl (by decide) rfl (fun ls hl => ?_)
            refine lv_iinc (v := (nI (w + 1))) (lv' := [(2, .int (nI (w + 1))), (1, .int (nI (n + (cw f w (nI 0) + cw f w (nI 2))))), (0, .ref (a 0))]) hx hb dX2_reachable_52 hl (k := 1) rfl (n_inc1 _) (by decide) rfl (fun ls hl => ?_)
            refine lv_goto (tgt := 4) hx hb dX2_reachable_55 (by decide) ?_
            exact ih4 (w + 1) (n + (cw f w (nI 0) + cw f w (nI 2))) _ _ _ (by omega) (by rw [fb_sm_succ, ← hn]; unfold rc; rw [if_pos (Or.inr (Nat.pos_of_ne_zero (fun q => c26 ((rep_zero R.1 (k := 2) (by decide) (by omega)).mpr q))))]) (by omega) hP hD hS (lv_sub hl [0, 1, 2] rfl)
  exact LP4 _ 0 0 _ _ _ (by omega) (rfl) (Nat.lt_succ_self _) hP hD hS (lv_sub hl [0, 1, 2] rfl)
