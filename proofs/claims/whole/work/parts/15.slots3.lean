/-! the class's Slots: blocks, ranges, the summary -/
def bp (f : Nat → Int32) (b : Nat) : Nat := (f (650 + 2 * b)).toNatClampNeg
def bz (f : Nat → Int32) (b : Nat) : Nat := (f (650 + 2 * b + 1)).toNatClampNeg
/-- slot s lies in block b -/
def ibB (f : Nat → Int32) (b s : Nat) : Bool := decide (0 < f (650 + 2 * b + 1)) && decide (bp f b ≤ s) && decide (s < bp f b + bz f b)
/-- owners are as the blocks say, and what is owned is used or kept -/
def Own (f : Nat → Int32) : Prop := ∀ s, s < 320 → ∃ o, o ≤ 8 ∧ f (320 + s) = nI o ∧ (∀ b, b < 8 → (o = b + 1 ↔ ibB f b s = true)) ∧ (¬ o = 0 → f s = nI 1 ∨ f s = nI 3)
theorem blk_nat {f : Nat → Int32} {V : Nat → Nat → Int32} (R : RepZ f V) (hB : BInv f) (hz : BZ f) {b : Nat} (hb : b < 8) : ∃ p z, p < 320 ∧ z ≤ 32 ∧ V 4 b = nI p ∧ V 5 b = nI z ∧ f (650 + 2 * b + 1) = nI z ∧ (z = 0 ∨ (okz z ∧ f (650 + 2 * b) = nI p ∧ p % z = 0 ∧ p + z ≤ 320)) := by
  obtain ⟨h1, ⟨p, hp, h2⟩, h3⟩ := R b hb
  rcases hz b hb with h0 | h0
  · exact ⟨p, 0, hp, by decide, h2, h1.trans h0, h0, Or.inl rfl⟩
  · obtain ⟨p', z, g1, g2, g3, g4, g5⟩ := hB b hb h0
    have hzl := okz_le g3
    have h5 : V 5 b = nI z := h1.trans g2
    have h4 : V 4 b = nI p' := (h3 (by rw [h5, nI_eq (by omega) (by decide)]; omega)).trans g1
    exact ⟨p', z, by omega, hzl.2, h4, h5, g2, Or.inr ⟨g3, g1, g4, g5⟩⟩
theorem ib_pz {f : Nat → Int32} {b p z s : Nat} (h : f (650 + 2 * b + 1) = nI z) (hz : z ≤ 32) (h2 : z = 0 ∨ (okz z ∧ f (650 + 2 * b) = nI p ∧ p % z = 0 ∧ p + z ≤ 320)) : ibB f b s = decide (p ≤ s ∧ s < p + z) := by
  unfold ibB bp bz
  rw [h, nI_clamp (by omega)]
  rcases h2 with rfl | ⟨h3, h4, -, h5⟩
  · rw [decide_eq_false (p := p ≤ s ∧ s < p + 0) (by omega)]
    rfl
  · have := okz_le h3
    rw [h4, nI_clamp (by omega), show decide (0 < nI z) = true from decide_eq_true (nI_lt (a := 0) (by omega) (by omega)), Bool.true_and, Bool.eq_iff_iff, Bool.and_eq_true, decide_eq_true_iff, decide_eq_true_iff, decide_eq_true_iff]
/-- a block lies in one word -/
theorem blk_word {p z s : Nat} (hz : okz z) (hm : p % z = 0) (h1 : p ≤ s) (h2 : s < p + z) : s / 32 = p / 32 := by rcases hz with rfl | rfl | rfl | rfl <;> omega
theorem blk_end {p z : Nat} (hz : okz z) (hm : p % z = 0) : p + z ≤ 32 * (p / 32) + 32 := by rcases hz with rfl | rfl | rfl | rfl <;> omega
def ob (f : Nat → Int32) : Nat → Nat → Bool
  | 0, _ => false
  | k + 1, s => ob f k s || ibB f k s
theorem ob_iff {f : Nat → Int32} {s : Nat} : ∀ {k : Nat}, ob f k s = true ↔ ∃ b, b < k ∧ ibB f b s = true
  | 0 => by
    constructor
    · intro h; cases h
    · rintro ⟨b, h, -⟩; exact absurd h (Nat.not_lt_zero b)
  | k + 1 => by
    rw [ob, Bool.or_eq_true, ob_iff]
    constructor
    · rintro (⟨b, h1, h2⟩ | h)
      · exact ⟨b, by omega, h2⟩
      · exact ⟨k, by omega, h⟩
    · rintro ⟨b, h1, h2⟩
      rcases Nat.lt_or_ge b k with q | q
      · exact Or.inl ⟨b, q, h2⟩
      · exact Or.inr (by rw [show k = b by omega]; exact h2)
theorem ob_own {f : Nat → Int32} (h : Own f) {s : Nat} (hs : s < 320) : ob f 8 s = true ↔ 0 < f (320 + s) := by
  obtain ⟨o, h1, h2, h3, -⟩ := h s hs
  rw [ob_iff, h2]
  constructor
  · rintro ⟨b, hb, hi⟩
    have := (h3 b hb).mpr hi
    exact nI_lt (a := 0) (by omega) (by omega)
  · intro h0
    have h4 : 0 < o := by
      rcases Nat.eq_zero_or_pos o with q | q
      · rw [q] at h0; exact absurd h0 (by decide)
      · exact q
    exact ⟨o - 1, by omega, (h3 (o - 1) (by omega)).mp (by omega)⟩
theorem ib_keep {f g : Nat → Int32} (h : keepB f g) {b s : Nat} (hb : b < 8) : ibB g b s = ibB f b s := by
  unfold ibB bp bz
  rw [h _ (by omega) (by omega), h _ (by omega) (by omega)]
theorem BZ_keep {f g : Nat → Int32} (h : keepB f g) (hz : BZ f) : BZ g := fun b hb => by
  rw [h _ (by omega) (by omega)]
  exact hz b hb
theorem ob_keep {f g : Nat → Int32} (h : keepB f g) {s : Nat} : ∀ {k : Nat}, k ≤ 8 → ob g k s = ob f k s
  | 0, _ => rfl
  | k + 1, hk => by rw [ob, ob, ob_keep h (by omega), ib_keep h (by omega)]
/-- a count over all slots, word by word -/
theorem ct_words (p : Nat → Bool) : ∀ n, fb_ct p (32 * n) = fb_sm (fun w => fb_ct (fun i => p (32 * w + i)) 32) n
  | 0 => rfl
  | n + 1 => by rw [show 32 * (n + 1) = 32 * n + 32 by omega, fb_ct_split, ct_words p n, fb_sm_succ]
/-- a count in a window -/
theorem ct_win {q : Nat → Bool} {B p z n : Nat} (h1 : B ≤ p) (h2 : p + z ≤ B + n) : fb_ct (fun i => decide (p ≤ B + i ∧ B + i < p + z) && q (B + i)) n = fb_ct (fun i => q (p + i)) z := by
  obtain ⟨c, rfl⟩ := Nat.le.dest h1
  obtain ⟨d, hd⟩ : ∃ d, n = c + (z + d) := ⟨n - c - z, by omega⟩
  rw [hd, fb_ct_split, fb_ct_split]
  have e1 : fb_ct (fun i => decide (B + c ≤ B + i ∧ B + i < B + c + z) && q (B + i)) c = 0 := fb_ct_zero.mpr (fun i hi => by rw [decide_eq_false (by omega)]; rfl)
  have e2 : fb_ct (fun k => decide (B + c ≤ B + (c + (z + k)) ∧ B + (c + (z + k)) < B + c + z) && q (B + (c + (z + k)))) d = 0 := fb_ct_zero.mpr (fun i hi => by rw [decide_eq_false (by omega)]; rfl)
  have e3 : fb_ct (fun k => decide (B + c ≤ B + (c + k) ∧ B + (c + k) < B + c + z) && q (B + (c + k))) z = fb_ct (fun i => q (B + c + i)) z := fb_ct_cong (fun i hi => by rw [decide_eq_true (by omega), Nat.add_assoc]; rfl)
  rw [e1, e2, e3]
  omega
theorem pc_of {m : Int32} {P : Nat → Bool} (h : ∀ i, i < 32 → bt m i = P i) : pc m = fb_ct P 32 := fb_ct_cong h
theorem zero_of {m : Int32} {P : Nat → Bool} (h : ∀ i, i < 32 → bt m i = P i) : m = nI 0 ↔ ∀ i, i < 32 → P i = false := by
  constructor
  · intro e i hi
    rw [← h i hi, e]
    exact b_0 i
  · intro e
    refine b_ext (fun i hi => ?_)
    rw [h i hi, e i hi]
    exact (b_0 i).symm
theorem low_of {m : Int32} {P : Nat → Bool} {i : Nat} (h : ∀ i, i < 32 → bt m i = P i) (hi : i < 32) (h1 : P i = true) (h2 : ∀ j, j < i → P j = false) : lw m = i := low_pc hi (by rw [h i hi]; exact h1) (fun j hj => by rw [h j (by omega)]; exact h2 j hj)
/-- the words below w of a range given back -/
def gw (f : Nat → Int32) (a n w : Nat) : Nat → Int32 := bec f (fun j => decide (j / 32 < w) && gbP f a n j) (gbv f)
theorem gw_0 (f : Nat → Int32) (a n : Nat) : f = gw f a n 0 := (bec_none (fun j _ => by simp)).symm
theorem gw_10 (f : Nat → Int32) (a n : Nat) : gw f a n 10 = gbF f a n := bec_cong (fun j hj => by rw [decide_eq_true (by omega)]; rfl) (fun _ _ _ => rfl)
theorem gw_slot {f : Nat → Int32} {a n w j : Nat} (hj : j < 320) (h : w ≤ j / 32) : gw f a n w j = f j := bec_slot_n hj (by rw [decide_eq_false (by omega)]; rfl)
theorem gw_s {f : Nat → Int32} {a n w : Nat} {m1 m2 : Int32} (hw : w < 10) (h1 : ∀ i, i < 32 → bt m1 i = (gbP f a n (32 * w + i) && decide (¬ 0 < f (320 + (32 * w + i))))) (h2 : ∀ i, i < 32 → bt m2 i = (gbP f a n (32 * w + i) && decide (0 < f (320 + (32 * w + i))))) :
    bec (bec (gw f a n w) (mP w m1) (fun _ => nI 2)) (mP w m2) (fun _ => nI 3) = gw f a n (w + 1) := by
  have e1 : ∀ j, j < 320 → mP w m1 j = (decide (j / 32 = w) && gbP f a n j && decide (¬ 0 < f (320 + j))) := fun j hj => by
    unfold mP
    by_cases e : j / 32 = w
    · rw [h1 _ (by omega), show 32 * w + j % 32 = j by omega, decide_eq_true e]
      simp
    · rw [decide_eq_false e]; rfl
  have e2 : ∀ j, j < 320 → mP w m2 j = (decide (j / 32 = w) && gbP f a n j && decide (0 < f (320 + j))) := fun j hj => by
    unfold mP
    by_cases e : j / 32 = w
    · rw [h2 _ (by omega), show 32 * w + j % 32 = j by omega, decide_eq_true e]
      simp
    · rw [decide_eq_false e]; rfl
  unfold gw
  rw [bec_bec (v := gbv f) (w := gbv f) (fun j hj h => by
    rw [e1 j hj, Bool.and_eq_true, decide_eq_true_iff] at h
    exact if_neg h.2) (fun _ _ _ _ => rfl), bec_bec (w := gbv f) (fun j hj h => by
    rw [e2 j hj, Bool.and_eq_true, decide_eq_true_iff] at h
    exact if_pos h.2) (fun _ _ _ _ => rfl)]
  refine bec_cong (fun j hj => ?_) (fun _ _ _ => rfl)
  rw [e1 j hj, e2 j hj]
  by_cases c : 0 < f (320 + j)
  · by_cases e : j / 32 = w
    · simp [c, e]
    · by_cases e3 : j / 32 < w
      · simp [c, e, e3, show j / 32 < w + 1 by omega]
      · simp [c, e, e3, show ¬ j / 32 < w + 1 by omega]
  · by_cases e : j / 32 = w
    · simp [c, e]
    · by_cases e3 : j / 32 < w
      · simp [c, e, e3, show j / 32 < w + 1 by omega]
      · simp [c, e, e3, show ¬ j / 32 < w + 1 by omega]
theorem gb_count {f : Nat → Int32} {a n : Nat} (h : a + n ≤ 320) : fb_sm (fun w => fb_ct (fun i => gbP f a n (32 * w + i)) 32) 10 = gbN f a n := by
  rw [← ct_words (gbP f a n) 10]
  have := ct_win (q := fun j => decide (f j = nI 1)) (B := 0) (p := a) (z := n) (n := 320) (Nat.zero_le _) (by omega)
  unfold gbN
  rw [← this]
  refine fb_ct_cong (fun i hi => ?_)
  unfold gbP rg
  rw [Nat.zero_add, Bool.eq_iff_iff]
  simp only [Bool.and_eq_true, decide_eq_true_eq]
theorem gb_in {va vb : Int32} (h1 : ¬ va < 0) (h2 : ¬ nI 320 ≤ vb) (h3 : va ≤ vb) : ∃ a b, va = nI a ∧ vb = nI b ∧ a ≤ b ∧ b ≤ 319 := by
  obtain ⟨a, ha, rfl⟩ := nI_of h1
  rw [Int32.le_iff_toInt_le, nI_toInt (by decide)] at h2
  rw [Int32.le_iff_toInt_le, nI_toInt ha] at h3
  obtain ⟨b, hb, rfl⟩ := nI_of (x := vb) (by rw [Int32.lt_iff_toInt_lt, Int32.toInt_zero]; omega)
  rw [nI_toInt hb] at h2 h3
  exact ⟨a, b, rfl, rfl, by omega, by omega⟩
theorem all_and {x m : Int32} : x &&& m = m ↔ ∀ i, i < 32 → bt m i = true → bt x i = true := by
  constructor
  · intro h i hi hm
    have : bt (x &&& m) i = true := by rw [h]; exact hm
    rw [b_and, Bool.and_eq_true] at this
    exact this.1
  · intro h
    refine b_ext (fun i hi => ?_)
    rw [b_and]
    cases e : bt m i with
    | false => simp
    | true => rw [h i hi e]; rfl
theorem rep_pl {f : Nat → Int32} {V : Nat → Nat → Int32} (R : RepK f V) {p z q : Nat} {m : Int32} (hp : p = z * q) (hz : okz z) (h : p + z ≤ 320) (hm : ∀ i, i < 32 → bt m i = decide (p ≤ 32 * (p / 32) + i ∧ 32 * (p / 32) + i < p + z)) : V 0 (p / 32) &&& m = m ↔ plq f z q = true := by
  have he := blk_end hz (p := p) (by rw [hp]; exact Nat.mul_mod_right _ _)
  unfold plq
  rw [all_and, decide_eq_true_iff, fb_ct_all, ← hp]
  constructor
  · intro h1 i hi
    have h2 := h1 (p + i - 32 * (p / 32)) (by omega) (by rw [hm _ (by omega)]; exact decide_eq_true (by omega))
    rw [R 0 _ _ (by decide) (by omega) (by omega), show 32 * (p / 32) + (p + i - 32 * (p / 32)) = p + i by omega] at h2
    exact h2
  · intro h1 i hi h2
    rw [hm i hi, decide_eq_true_iff] at h2
    rw [R 0 _ _ (by decide) (by omega) hi]
    have h3 := h1 (32 * (p / 32) + i - p) (by omega)
    rw [show p + (32 * (p / 32) + i - p) = 32 * (p / 32) + i by omega] at h3
    exact h3
theorem RepS_own {f : Nat → Int32} {V : Nat → Nat → Int32} {p n : Nat} {x : Int32} (R : RepS f V) (h : p + n ≤ 320) : RepS (ow f p n x) V := by
  obtain ⟨rk, ⟨rb1, rb2⟩, rl, rz⟩ := R
  have e : ∀ j, (j < 320 ∨ 640 ≤ j) → ow f p n x j = f j := fun j hj => if_neg (by omega)
  refine ⟨fun k w i hk hw hi => ?_, ⟨fun w hw => ?_, rb2⟩, ?_, ?_⟩
  · rw [e _ (by omega)]; exact rk k w i hk hw hi
  · rw [e _ (by omega)]; exact rb1 w hw
  · rw [e _ (by omega)]; exact rl
  · exact RepZ_of rfl rfl (fun j h1 h2 => e j (by omega)) rz
theorem RepS_blk {f : Nat → Int32} {V V1 V2 : Nat → Nat → Int32} {b p z : Nat} (R : RepS f V) (hb : b < 8) (hp : p < 320) (h1 : V1 = vset V 4 (upd (V 4) b (nI p))) (h2 : V2 = vset V1 5 (upd (V1 5) b (nI z))) : RepS (blk f b p z) V2 := by
  obtain ⟨rk, ⟨rb1, rb2⟩, rl, rz⟩ := R
  have e : ∀ j, j < 650 ∨ 666 ≤ j → blk f b p z j = f j := fun j hj => by unfold blk; rw [upd_n _ _ (by omega), upd_n _ _ (by omega)]
  have e6 : V2 6 = V 6 := by rw [h2, vset_n _ _ (by decide), h1, vset_n _ _ (by decide)]
  have e4 : V2 4 = upd (V 4) b (nI p) := by rw [h2, vset_n _ _ (by decide), h1, vset_s]
  have e5 : V2 5 = upd (V 5) b (nI z) := by rw [h2, vset_s, h1, vset_n _ _ (by decide)]
  refine ⟨fun k w i hk hw hi => ?_, ⟨fun w hw => ?_, fun i hi => ?_⟩, ?_, fun k hk => ?_⟩
  · rw [h2, vset_n _ _ (by omega), h1, vset_n _ _ (by omega), e _ (by omega)]; exact rk k w i hk hw hi
  · rw [e6, e _ (by omega)]; exact rb1 w hw
  · rw [e6]; exact rb2 i hi
  · rw [e6, e _ (by omega)]; exact rl
  · rw [e4, e5]
    by_cases q : k = b
    · subst q
      rw [upd_s, upd_s]
      unfold blk
      rw [upd_s]
      exact ⟨rfl, ⟨p, hp, rfl⟩, fun _ => by rw [upd_n _ _ (by omega), upd_s]⟩
    · rw [upd_n _ _ q, upd_n _ _ q]
      unfold blk
      rw [upd_n _ _ (by omega), upd_n _ _ (by omega), upd_n _ _ (by omega), upd_n _ _ (by omega)]
      exact rz k hk
theorem RepS_gone {f : Nat → Int32} {V V1 : Nat → Nat → Int32} {b : Nat} (R : RepS f V) (hb : b < 8) (h1 : V1 = vset V 5 (upd (V 5) b (nI 0))) : RepS (upd (upd f (650 + 2 * b) (nI 0)) (650 + 2 * b + 1) (nI 0)) V1 := by
  obtain ⟨rk, ⟨rb1, rb2⟩, rl, rz⟩ := R
  have e : ∀ j, j < 650 ∨ 666 ≤ j → upd (upd f (650 + 2 * b) (nI 0)) (650 + 2 * b + 1) (nI 0) j = f j := fun j hj => by rw [upd_n _ _ (by omega), upd_n _ _ (by omega)]
  refine ⟨fun k w i hk hw hi => ?_, ⟨fun w hw => ?_, fun i hi => ?_⟩, ?_, fun k hk => ?_⟩
  · rw [h1, vset_n _ _ (by omega), e _ (by omega)]; exact rk k w i hk hw hi
  · rw [h1, vset_n _ _ (by decide), e _ (by omega)]; exact rb1 w hw
  · rw [h1, vset_n _ _ (by decide)]; exact rb2 i hi
  · rw [h1, vset_n _ _ (by decide), e _ (by omega)]; exact rl
  · rw [h1, vset_s, vset_n _ _ (by decide)]
    by_cases q : k = b
    · subst q
      rw [upd_s, upd_s]
      exact ⟨rfl, (rz k hk).2.1, fun q => absurd rfl q⟩
    · rw [upd_n _ _ q, upd_n _ _ (by omega), upd_n _ _ (by omega), upd_n _ _ (by omega), upd_n _ _ (by omega)]
      exact rz k hk
theorem mP_rg {w p z : Nat} {m : Int32} (hw : p / 32 = w) (he : p + z ≤ 32 * w + 32) (hm : ∀ i, i < 32 → bt m i = decide (p ≤ 32 * w + i ∧ 32 * w + i < p + z)) (j : Nat) : mP w m j = rg p z j := by
  unfold mP rg
  by_cases e : j / 32 = w
  · rw [hm _ (by omega), show 32 * w + j % 32 = j by omega, decide_eq_true e, Bool.true_and, Bool.eq_iff_iff, Bool.and_eq_true, decide_eq_true_iff, decide_eq_true_iff, decide_eq_true_iff]
  · rw [decide_eq_false e, Bool.false_and, Bool.eq_iff_iff, Bool.and_eq_true, decide_eq_true_iff, decide_eq_true_iff]
    constructor
    · intro h; cases h
    · intro h; omega
theorem kp_word {f : Nat → Int32} {p z w : Nat} (h1 : 32 * w ≤ p) (h2 : p + z ≤ 32 * w + 32) : (∀ s, kp f p z = some s → p ≤ s ∧ s < p + z ∧ f s = nI 3 ∧ (∀ j, j < s - 32 * w → (decide (f (32 * w + j) = nI 3) && decide (p ≤ 32 * w + j ∧ 32 * w + j < p + z)) = false)) ∧ (kp f p z = none → ∀ i, i < 32 → (decide (f (32 * w + i) = nI 3) && decide (p ≤ 32 * w + i ∧ 32 * w + i < p + z)) = false) := by
  constructor
  · intro s h
    obtain ⟨g1, g2, g3, g4⟩ := ls1_some h
    refine ⟨g1, g2, of_decide_eq_true g3, fun j hj => ?_⟩
    by_cases c : p ≤ 32 * w + j ∧ 32 * w + j < p + z
    · rw [g4 (32 * w + j) c.1 (by omega)]; rfl
    · rw [decide_eq_false c, Bool.and_false]
  · intro h i hi
    by_cases c : p ≤ 32 * w + i ∧ 32 * w + i < p + z
    · rw [ls1_none h (32 * w + i) c.1 (by omega)]; rfl
    · rw [decide_eq_false c, Bool.and_false]
theorem xor_bit {x : Int32} {w i : Nat} (hw : w < 32) (hi : i < 32) : bt (x ^^^ b1 w) i = if i = w then !(bt x i) else bt x i := by
  rw [b_xor, b1_bt hw hi]
  by_cases e : i = w <;> simp [e]
theorem one_sub {x : Int32} (h : x = nI 0 ∨ x = nI 1) : nI 1 - x = (if x = nI 1 then nI 0 else nI 1) := by rcases h with rfl | rfl <;> decide
theorem rep_pc2 {f : Nat → Int32} {V : Nat → Nat → Int32} (R : RepK f V) {w : Nat} (hw : w < 10) : pc (V 0 w ||| V 2 w) = cw f w (nI 0) + cw f w (nI 2) := by
  unfold cw
  rw [← fb_ct_or (fun i hi => by
    rw [decide_eq_true_iff, decide_eq_true_iff]
    intro q
    rw [q.1] at q
    exact absurd q.2 (by decide))]
  exact fb_ct_cong (fun i hi => by rw [b_or, R 0 w i (by decide) hw hi, R 2 w i (by decide) hw hi])
