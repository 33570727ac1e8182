/-! counts and sums: the given laws (fb_ct, fb_sm), pasted; then this claim's own words for a state of the map -/
def fb_ct (p : Nat → Bool) : Nat → Nat
  | 0 => 0
  | n + 1 => fb_ct p n + (if p n then 1 else 0)
theorem fb_ct_succ (p : Nat → Bool) (n : Nat) : fb_ct p (n + 1) = fb_ct p n + (if p n then 1 else 0) := rfl
theorem fb_ct_le (p : Nat → Bool) : ∀ n, fb_ct p n ≤ n
  | 0 => Nat.le_refl _
  | n + 1 => by
    have h := fb_ct_le p n
    rw [fb_ct_succ]
    split <;> omega
theorem fb_ct_step (p : Nat → Bool) (m : Nat) : ∀ n, fb_ct p m ≤ fb_ct p (m + n)
  | 0 => Nat.le_refl _
  | n + 1 => by
    have h := fb_ct_step p m n
    show fb_ct p m ≤ fb_ct p (m + n + 1)
    rw [fb_ct_succ]
    omega
theorem fb_ct_mono (p : Nat → Bool) {m n : Nat} (h : m ≤ n) : fb_ct p m ≤ fb_ct p n := by
  have := fb_ct_step p m (n - m)
  rwa [Nat.add_sub_cancel' h] at this
theorem fb_ct_cong {p q : Nat → Bool} : ∀ {n : Nat}, (∀ k, k < n → p k = q k) → fb_ct p n = fb_ct q n
  | 0, _ => rfl
  | n + 1, h => by
    rw [fb_ct_succ, fb_ct_succ, fb_ct_cong (fun k hk => h k (by omega)), h n (by omega)]
/-- one place changed -/
theorem fb_ct_out (p : Nat → Bool) (b : Bool) {i n : Nat} (h : n ≤ i) : fb_ct (fun k => if k = i then b else p k) n = fb_ct p n :=
  fb_ct_cong fun k hk => if_neg (by omega)
theorem fb_ct_upd (p : Nat → Bool) (b : Bool) {i : Nat} : ∀ {n : Nat}, i < n → fb_ct (fun k => if k = i then b else p k) n + (if p i then 1 else 0) = fb_ct p n + (if b then 1 else 0)
  | 0, h => absurd h (Nat.not_lt_zero i)
  | n + 1, h => by
    rw [fb_ct_succ, fb_ct_succ]
    rcases Nat.lt_or_ge i n with q | q
    · have := fb_ct_upd p b q
      have e : (if n = i then b else p n) = p n := if_neg (by omega)
      rw [e]
      omega
    · have e : i = n := by omega
      subst e
      rw [fb_ct_out p b (Nat.le_refl _)]
      simp only [if_true]
      omega
theorem fb_ct_sub {p q : Nat → Bool} : ∀ {n : Nat}, (∀ k, k < n → p k = true → q k = true) → fb_ct p n ≤ fb_ct q n
  | 0, _ => Nat.le_refl _
  | n + 1, h => by
    have h1 := fb_ct_sub (n := n) (p := p) (q := q) (fun k hk => h k (by omega))
    have h2 := h n (by omega)
    rw [fb_ct_succ, fb_ct_succ]
    cases hp : p n <;> cases hq : q n <;> simp_all <;> omega
theorem fb_ct_or {p q : Nat → Bool} : ∀ {n : Nat}, (∀ k, k < n → ¬ (p k = true ∧ q k = true)) → fb_ct (fun k => p k || q k) n = fb_ct p n + fb_ct q n
  | 0, _ => rfl
  | n + 1, h => by
    have h1 := fb_ct_or (n := n) (p := p) (q := q) (fun k hk => h k (by omega))
    have h2 := h n (by omega)
    rw [fb_ct_succ, fb_ct_succ, fb_ct_succ, h1]
    cases hp : p n <;> cases hq : q n <;> simp_all <;> omega
theorem fb_ct_not (p : Nat → Bool) : ∀ n, fb_ct p n + fb_ct (fun k => !p k) n = n
  | 0 => rfl
  | n + 1 => by
    have h := fb_ct_not p n
    rw [fb_ct_succ, fb_ct_succ]
    cases p n <;> simp <;> omega
theorem fb_ct_split (p : Nat → Bool) (m : Nat) : ∀ n, fb_ct p (m + n) = fb_ct p m + fb_ct (fun k => p (m + k)) n
  | 0 => rfl
  | n + 1 => by
    have h := fb_ct_split p m n
    show fb_ct p (m + n + 1) = _
    rw [fb_ct_succ, fb_ct_succ, h, Nat.add_assoc]
theorem fb_ct_zero {p : Nat → Bool} : ∀ {n : Nat}, fb_ct p n = 0 ↔ ∀ k, k < n → p k = false
  | 0 => ⟨fun _ k hk => absurd hk (Nat.not_lt_zero k), fun _ => rfl⟩
  | n + 1 => by
    have h := fb_ct_zero (p := p) (n := n)
    rw [fb_ct_succ]
    constructor
    · intro e k hk
      have e1 : fb_ct p n = 0 := by omega
      rcases Nat.lt_or_ge k n with q | q
      · exact h.mp e1 k q
      · have ek : k = n := by omega
        subst ek
        cases hp : p k
        · rfl
        · simp [hp] at e
    · intro a
      rw [h.mpr (fun k hk => a k (by omega)), a n (by omega)]
      rfl
theorem fb_ct_pos {p : Nat → Bool} {n : Nat} : 0 < fb_ct p n ↔ ∃ k, k < n ∧ p k = true := by
  constructor
  · intro h
    refine Classical.byContradiction fun hx => ?_
    have := fb_ct_zero.mpr (fun k hk => by
      cases hp : p k
      · rfl
      · exact absurd ⟨k, hk, hp⟩ hx : ∀ k, k < n → p k = false)
    omega
  · rintro ⟨k, hk, hp⟩
    rcases Nat.eq_zero_or_pos (fb_ct p n) with e | e
    · have := fb_ct_zero.mp e k hk
      rw [this] at hp
      cases hp
    · exact e
theorem fb_ct_all {p : Nat → Bool} {n : Nat} : fb_ct p n = n ↔ ∀ k, k < n → p k = true := by
  have h := fb_ct_not p n
  constructor
  · intro e k hk
    have z : fb_ct (fun k => !p k) n = 0 := by omega
    have := fb_ct_zero.mp z k hk
    cases hp : p k
    · simp [hp] at this
    · rfl
  · intro a
    have z : fb_ct (fun k => !p k) n = 0 := fb_ct_zero.mpr (fun k hk => by simp [a k hk])
    omega
/-- the k-th place with the property -/
theorem fb_ct_kth {p : Nat → Bool} {k : Nat} : ∀ {n : Nat}, k < fb_ct p n → ∃ i, i < n ∧ p i = true ∧ fb_ct p i = k
  | 0, h => absurd h (Nat.not_lt_zero k)
  | n + 1, h => by
    rcases Nat.lt_or_ge k (fb_ct p n) with q | q
    · obtain ⟨i, h1, h2⟩ := fb_ct_kth q
      exact ⟨i, by omega, h2⟩
    · rw [fb_ct_succ] at h
      cases hp : p n
      · simp [hp] at h; omega
      · simp [hp] at h
        exact ⟨n, by omega, hp, by omega⟩
theorem fb_ct_kth_one {p : Nat → Bool} {i j : Nat} (hi : p i = true) (hj : p j = true) (e : fb_ct p i = fb_ct p j) : i = j := by
  have key : ∀ a b : Nat, a < b → p a = true → fb_ct p a < fb_ct p b := by
    intro a b hab ha
    have h := fb_ct_mono p (show a + 1 ≤ b from hab)
    rw [fb_ct_succ, ha] at h
    simp at h
    omega
  rcases Nat.lt_trichotomy i j with q | q | q
  · have := key i j q hi; omega
  · exact q
  · have := key j i q hj; omega
/-! ===== sums over a range: one place changed, parts, bounds ===== -/
def fb_sm (f : Nat → Nat) : Nat → Nat
  | 0 => 0
  | n + 1 => fb_sm f n + f n
theorem fb_sm_succ (f : Nat → Nat) (n : Nat) : fb_sm f (n + 1) = fb_sm f n + f n := rfl
theorem fb_sm_cong {f g : Nat → Nat} : ∀ {n : Nat}, (∀ k, k < n → f k = g k) → fb_sm f n = fb_sm g n
  | 0, _ => rfl
  | n + 1, h => by rw [fb_sm_succ, fb_sm_succ, fb_sm_cong (fun k hk => h k (by omega)), h n (by omega)]
theorem fb_sm_out (f : Nat → Nat) (v : Nat) {i n : Nat} (h : n ≤ i) : fb_sm (fun k => if k = i then v else f k) n = fb_sm f n :=
  fb_sm_cong fun k hk => if_neg (by omega)
theorem fb_sm_upd (f : Nat → Nat) (v : Nat) {i : Nat} : ∀ {n : Nat}, i < n → fb_sm (fun k => if k = i then v else f k) n + f i = fb_sm f n + v
  | 0, h => absurd h (Nat.not_lt_zero i)
  | n + 1, h => by
    rw [fb_sm_succ, fb_sm_succ]
    rcases Nat.lt_or_ge i n with q | q
    · have := fb_sm_upd f v q
      have e : (if n = i then v else f n) = f n := if_neg (by omega)
      rw [e]
      omega
    · have e : i = n := by omega
      subst e
      rw [fb_sm_out f v (Nat.le_refl _)]
      simp only [if_true]
      omega
theorem fb_sm_add (f g : Nat → Nat) : ∀ n, fb_sm (fun k => f k + g k) n = fb_sm f n + fb_sm g n
  | 0 => rfl
  | n + 1 => by
    have h := fb_sm_add f g n
    rw [fb_sm_succ, fb_sm_succ, fb_sm_succ, h]
    omega
theorem fb_sm_le {f g : Nat → Nat} : ∀ {n : Nat}, (∀ k, k < n → f k ≤ g k) → fb_sm f n ≤ fb_sm g n
  | 0, _ => Nat.le_refl _
  | n + 1, h => by
    have h1 := fb_sm_le (n := n) (f := f) (g := g) (fun k hk => h k (by omega))
    have h2 := h n (by omega)
    rw [fb_sm_succ, fb_sm_succ]
    omega
theorem fb_sm_const (c : Nat) : ∀ n, fb_sm (fun _ => c) n = n * c
  | 0 => by rw [Nat.zero_mul]; rfl
  | n + 1 => by rw [fb_sm_succ, fb_sm_const c n, Nat.succ_mul]
theorem fb_sm_bound {f : Nat → Nat} {c n : Nat} (h : ∀ k, k < n → f k ≤ c) : fb_sm f n ≤ n * c := by
  rw [← fb_sm_const c n]
  exact fb_sm_le h
theorem fb_sm_mono (f : Nat → Nat) (m : Nat) : ∀ n, fb_sm f m ≤ fb_sm f (m + n)
  | 0 => Nat.le_refl _
  | n + 1 => by
    have h := fb_sm_mono f m n
    show fb_sm f m ≤ fb_sm f (m + n + 1)
    rw [fb_sm_succ]
    omega
theorem fb_sm_part (f : Nat → Nat) {i n : Nat} (h : i < n) : fb_sm f i + f i ≤ fb_sm f n := by
  have := fb_sm_mono f (i + 1) (n - (i + 1))
  rw [fb_sm_succ, show i + 1 + (n - (i + 1)) = n by omega] at this
  exact this
theorem fb_sm_split (f : Nat → Nat) (m : Nat) : ∀ n, fb_sm f (m + n) = fb_sm f m + fb_sm (fun k => f (m + k)) n
  | 0 => rfl
  | n + 1 => by
    have h := fb_sm_split f m n
    show fb_sm f (m + n + 1) = _
    rw [fb_sm_succ, fb_sm_succ, h, Nat.add_assoc]
theorem fb_sm_zero {f : Nat → Nat} {n : Nat} (h : fb_sm f n = 0) : ∀ k, k < n → f k = 0 := fun k hk => by
  have := fb_sm_part f hk
  omega
/-! THE MAP AS NUMBERS: f has 667 places, as the reference holds them: 0.. kinds of the slots, 320.. owners, 640.. summary bits, 650.. blocks (first, size), 666 looks -/
/-- how many slots of word w are k -/
def cw (f : Nat → Int32) (w : Nat) (k : Int32) : Nat := fb_ct (fun i => decide (f (32 * w + i) = k)) 32
/-- the right summary bit -/
def rt (f : Nat → Int32) (w : Nat) : Int32 := bI (decide (cw f w (nI 0) = 0))
/-- slot s becomes v -/
def bc1 (f : Nat → Int32) (s : Nat) (v : Int32) : Nat → Int32 := upd (upd f s v) (640 + s / 32) (rt (upd f s v) (s / 32))
/-- the slots of P become v -/
def chg (f : Nat → Int32) (P : Nat → Bool) (v : Nat → Int32) : Nat → Int32 := fun j => if j < 320 ∧ P j = true then v j else f j
def anyW (P : Nat → Bool) (w : Nat) : Prop := ∃ i, i < 32 ∧ P (32 * w + i) = true
def anyB (P : Nat → Bool) (w : Nat) : Bool := decide (0 < fb_ct (fun i => P (32 * w + i)) 32)
/-- the slots of P become v, and the bits of their words are set right -/
def bec (f : Nat → Int32) (P : Nat → Bool) (v : Nat → Int32) : Nat → Int32 := fun j => if (640 ≤ j ∧ j < 650) ∧ anyB P (j - 640) = true then rt (chg f P v) (j - 640) else chg f P v j
theorem anyB_iff {P : Nat → Bool} {w : Nat} : anyB P w = true ↔ anyW P w := by
  unfold anyB anyW
  rw [decide_eq_true_iff, fb_ct_pos]
theorem anyB_cong {P P' : Nat → Bool} {w : Nat} (h : ∀ i, i < 32 → P (32 * w + i) = P' (32 * w + i)) : anyB P w = anyB P' w := by
  unfold anyB
  rw [fb_ct_cong h]
theorem cw_cong {f g : Nat → Int32} {w : Nat} {k : Int32} (h : ∀ i, i < 32 → f (32 * w + i) = g (32 * w + i)) : cw f w k = cw g w k := fb_ct_cong (fun i hi => by rw [h i hi])
theorem rt_cong {f g : Nat → Int32} {w : Nat} (h : ∀ i, i < 32 → f (32 * w + i) = g (32 * w + i)) : rt f w = rt g w := by
  unfold rt
  rw [cw_cong h]
theorem cw_le (f : Nat → Int32) (w : Nat) (k : Int32) : cw f w k ≤ 32 := fb_ct_le _ _
theorem upd_s (f : Nat → Int32) (k : Nat) (x : Int32) : upd f k x k = x := if_pos rfl
theorem upd_n (f : Nat → Int32) {k j : Nat} (x : Int32) (h : j ≠ k) : upd f k x j = f j := if_neg h
theorem bec_slot {f : Nat → Int32} {P : Nat → Bool} {v : Nat → Int32} {s : Nat} (h : s < 320) : bec f P v s = if P s = true then v s else f s := by
  unfold bec chg
  rw [if_neg (by omega)]
  by_cases e : P s = true
  · rw [if_pos ⟨h, e⟩, if_pos e]
  · rw [if_neg (fun q => e q.2), if_neg e]
theorem bec_slot_n {f : Nat → Int32} {P : Nat → Bool} {v : Nat → Int32} {s : Nat} (h : s < 320) (e : P s = false) : bec f P v s = f s := by rw [bec_slot h, e]; rfl
theorem bec_own {f : Nat → Int32} {P : Nat → Bool} {v : Nat → Int32} {j : Nat} (h : 320 ≤ j) (h2 : j < 640 ∨ 650 ≤ j) : bec f P v j = f j := by
  unfold bec chg
  rw [if_neg (by omega), if_neg (by omega)]
theorem bec_bit {f : Nat → Int32} {P : Nat → Bool} {v : Nat → Int32} {w : Nat} (h : w < 10) : bec f P v (640 + w) = if anyB P w = true then rt (chg f P v) w else f (640 + w) := by
  unfold bec
  rw [show 640 + w - 640 = w by omega]
  by_cases e : anyB P w = true
  · rw [if_pos ⟨by omega, e⟩, if_pos e]
  · rw [if_neg (fun q => e q.2), if_neg e]
    unfold chg
    rw [if_neg (by omega)]
theorem chg_slot {f : Nat → Int32} {P : Nat → Bool} {v : Nat → Int32} {s : Nat} (h : s < 320) : chg f P v s = if P s = true then v s else f s := by
  unfold chg
  by_cases e : P s = true
  · rw [if_pos ⟨h, e⟩, if_pos e]
  · rw [if_neg (fun q => e q.2), if_neg e]
theorem bec_cong {f : Nat → Int32} {P P' : Nat → Bool} {v v' : Nat → Int32} (h : ∀ j, j < 320 → P j = P' j) (hv : ∀ j, j < 320 → P j = true → v j = v' j) : bec f P v = bec f P' v' := by
  have hc : chg f P v = chg f P' v' := funext fun j => by
    unfold chg
    by_cases e : j < 320
    · rw [h j e]
      by_cases e2 : P' j = true
      · rw [if_pos ⟨e, e2⟩, if_pos ⟨e, e2⟩, hv j e (by rw [h j e]; exact e2)]
      · rw [if_neg (fun q => e2 q.2), if_neg (fun q => e2 q.2)]
    · rw [if_neg (fun q => e q.1), if_neg (fun q => e q.1)]
  funext j
  unfold bec
  rw [hc]
  by_cases e : 640 ≤ j ∧ j < 650
  · rw [anyB_cong (P := P) (P' := P') (fun i hi => h _ (by omega))]
  · rw [if_neg (fun q => e q.1), if_neg (fun q => e q.1)]
theorem anyB_none {P : Nat → Bool} {w : Nat} (h : ∀ i, i < 32 → P (32 * w + i) = false) : anyB P w = false := by
  cases e : anyB P w with
  | false => rfl
  | true =>
    obtain ⟨i, h1, h2⟩ := anyB_iff.mp e
    rw [h i h1] at h2
    exact absurd h2 (by decide)
theorem bec_none {f : Nat → Int32} {P : Nat → Bool} {v : Nat → Int32} (h : ∀ j, j < 320 → P j = false) : bec f P v = f := by
  funext j
  unfold bec
  by_cases e : 640 ≤ j ∧ j < 650
  · rw [if_neg (fun q => by rw [anyB_none (fun i hi => h _ (by omega))] at q; exact absurd q.2 (by decide))]
    unfold chg
    rw [if_neg (by omega)]
  · rw [if_neg (fun q => e q.1)]
    unfold chg
    by_cases e2 : j < 320
    · rw [if_neg (fun q => by rw [h j e2] at q; exact absurd q.2 (by decide))]
    · rw [if_neg (fun q => e2 q.1)]
/-- two changes, one behind the other, are one -/
theorem bec_bec {f : Nat → Int32} {P P' : Nat → Bool} {v v' w : Nat → Int32} (hw : ∀ j, j < 320 → P' j = true → w j = v' j) (hw2 : ∀ j, j < 320 → P j = true → P' j = false → w j = v j) : bec (bec f P v) P' v' = bec f (fun j => P j || P' j) w := by
  have hs : ∀ j, j < 320 → chg (bec f P v) P' v' j = chg f (fun j => P j || P' j) w j := fun j hj => by
    rw [chg_slot hj, chg_slot hj, bec_slot hj]
    cases e : P' j with
    | true => simp [hw j hj e]
    | false =>
      cases e2 : P j with
      | true => simp [hw2 j hj e2 e]
      | false => simp
  funext j
  by_cases hj : j < 320
  · rw [bec_slot hj, bec_slot hj, bec_slot hj]
    cases e : P' j with
    | true => simp [hw j hj e]
    | false =>
      cases e2 : P j with
      | true => simp [hw2 j hj e2 e]
      | false => simp
  · by_cases hb : 640 ≤ j ∧ j < 650
    · obtain ⟨k, rfl, hk⟩ : ∃ k, j = 640 + k ∧ k < 10 := ⟨j - 640, by omega, by omega⟩
      rw [bec_bit (P := P') hk, bec_bit (P := fun j => P j || P' j) hk, bec_bit (P := P) hk]
      have r1 : rt (chg (bec f P v) P' v') k = rt (chg f (fun j => P j || P' j) w) k := rt_cong (fun i hi => hs _ (by omega))
      rw [r1]
      cases e : anyB P' k with
      | true =>
        have : anyB (fun j => P j || P' j) k = true := by
          obtain ⟨i, h1, h2⟩ := anyB_iff.mp e
          exact anyB_iff.mpr ⟨i, h1, by simp [h2]⟩
        rw [this]
        simp
      | false =>
        have e3 : ∀ i, i < 32 → P' (32 * k + i) = false := fun i hi => by
          cases q : P' (32 * k + i) with
          | false => rfl
          | true => rw [anyB_iff.mpr ⟨i, hi, q⟩] at e; exact absurd e (by decide)
        rw [anyB_cong (P := fun j => P j || P' j) (P' := P) (w := k) (fun i hi => by simp [e3 i hi])]
        cases e4 : anyB P k with
        | false => simp
        | true =>
          simp only [if_true, Bool.false_eq_true, if_false]
          refine rt_cong (fun i hi => ?_)
          rw [chg_slot (by omega), chg_slot (by omega), e3 i hi]
          cases e5 : P (32 * k + i) with
          | true => simp [hw2 _ (by omega) e5 (e3 i hi)]
          | false => simp
    · rw [bec_own (by omega) (by omega), bec_own (by omega) (by omega), bec_own (by omega) (by omega)]
theorem bc1_bec {f : Nat → Int32} {s : Nat} {x : Int32} (h : s < 320) : bc1 f s x = bec f (fun j => decide (j = s)) (fun _ => x) := by
  have hs : ∀ j, j < 320 → upd f s x j = chg f (fun j => decide (j = s)) (fun _ => x) j := fun j hj => by
    rw [chg_slot hj]
    unfold upd
    by_cases e : j = s <;> simp [e]
  have hr : ∀ k, k < 10 → rt (upd f s x) k = rt (chg f (fun j => decide (j = s)) (fun _ => x)) k := fun k hk => rt_cong (fun i hi => hs _ (by omega))
  funext j
  unfold bc1
  by_cases hj : j = 640 + s / 32
  · rw [hj, upd_s, bec_bit (by omega), anyB_iff.mpr ⟨s % 32, by omega, by rw [show 32 * (s / 32) + s % 32 = s by omega]; simp⟩, hr _ (by omega)]
    simp
  · rw [upd_n _ _ hj]
    by_cases h3 : j < 320
    · rw [hs j h3, bec_slot h3, chg_slot h3]
    · rw [upd_n _ _ (by omega)]
      by_cases hb : 640 ≤ j ∧ j < 650
      · obtain ⟨k, rfl, hk⟩ : ∃ k, j = 640 + k ∧ k < 10 := ⟨j - 640, by omega, by omega⟩
        rw [bec_bit hk, anyB_none (fun i hi => by simp; omega)]
        simp
      · rw [bec_own (by omega) (by omega)]
/-- one slot more -/
theorem bec_add {f : Nat → Int32} {P P' : Nat → Bool} {v : Nat → Int32} {s : Nat} {x : Int32} (h : s < 320) (hx : v s = x) (hP : ∀ j, j < 320 → P' j = (P j || decide (j = s))) : bc1 (bec f P v) s x = bec f P' v := by
  rw [bc1_bec h, bec_bec (w := v) (fun j _ e => by rw [of_decide_eq_true e, hx]) (fun _ _ _ _ => rfl)]
  exact bec_cong (fun j hj => (hP j hj).symm) (fun _ _ _ => rfl)
/-- the first place from a on, among n, that has p -/
def ls1 (p : Nat → Bool) : Nat → Nat → Option Nat
  | 0, _ => none
  | n + 1, a => if p a = true then some a else ls1 p n (a + 1)
def oI : Option Nat → Int32
  | none => -9
  | some k => nI k
def o3 : Option Nat → Int32
  | none => -3
  | some k => nI k
theorem ls1_end (p : Nat → Bool) {e a : Nat} (h : e ≤ a) : ls1 p (e - a) a = none := by rw [show e - a = 0 by omega]; rfl
theorem ls1_yes {p : Nat → Bool} {e a : Nat} (h : a < e) (hp : p a = true) : ls1 p (e - a) a = some a := by
  rw [show e - a = (e - (a + 1)) + 1 by omega]
  exact if_pos hp
theorem ls1_no {p : Nat → Bool} {e a : Nat} (h : a < e) (hp : p a = false) : ls1 p (e - a) a = ls1 p (e - (a + 1)) (a + 1) := by
  rw [show e - a = (e - (a + 1)) + 1 by omega]
  exact if_neg (by rw [hp]; decide)
theorem ls1_cong {p q : Nat → Bool} : ∀ (n a : Nat), (∀ j, a ≤ j → j < a + n → p j = q j) → ls1 p n a = ls1 q n a
  | 0, _, _ => rfl
  | n + 1, a, h => by
    rw [ls1, ls1, h a (Nat.le_refl _) (by omega), ls1_cong n (a + 1) (fun j h1 h2 => h j (by omega) (by omega))]
theorem ls1_some {p : Nat → Bool} : ∀ {n a s : Nat}, ls1 p n a = some s → a ≤ s ∧ s < a + n ∧ p s = true ∧ ∀ j, a ≤ j → j < s → p j = false
  | 0, _, _, h => by cases h
  | n + 1, a, s, h => by
    rw [ls1] at h
    by_cases e : p a = true
    · rw [if_pos e] at h
      cases h
      exact ⟨Nat.le_refl _, by omega, e, fun j h1 h2 => absurd h2 (by omega)⟩
    · rw [if_neg e] at h
      obtain ⟨h1, h2, h3, h4⟩ := ls1_some h
      refine ⟨by omega, by omega, h3, fun j h5 h6 => ?_⟩
      by_cases ej : j = a
      · rw [ej]; cases q : p a with
        | false => rfl
        | true => exact absurd q e
      · exact h4 j (by omega) h6
theorem ls1_none {p : Nat → Bool} : ∀ {n a : Nat}, ls1 p n a = none → ∀ j, a ≤ j → j < a + n → p j = false
  | 0, _, _ => fun j h1 h2 => absurd h2 (by omega)
  | n + 1, a, h => by
    rw [ls1] at h
    by_cases e : p a = true
    · rw [if_pos e] at h; cases h
    · rw [if_neg e] at h
      intro j h1 h2
      by_cases ej : j = a
      · rw [ej]; cases q : p a with
        | false => rfl
        | true => exact absurd q e
      · exact ls1_none h j (by omega) (by omega)
theorem ls1_is {p : Nat → Bool} : ∀ {n a s : Nat}, a ≤ s → s < a + n → p s = true → (∀ j, a ≤ j → j < s → p j = false) → ls1 p n a = some s
  | 0, _, _, h1, h2, _, _ => absurd h2 (by omega)
  | n + 1, a, s, h1, h2, h3, h4 => by
    rw [ls1]
    by_cases ea : a = s
    · rw [ea, if_pos h3]
    · rw [if_neg (by rw [h4 a (Nat.le_refl _) (by omega)]; decide)]
      exact ls1_is (by omega) (by omega) h3 (fun j h5 h6 => h4 j (by omega) h6)
theorem ls1_out {p : Nat → Bool} : ∀ {n a : Nat}, (∀ j, a ≤ j → j < a + n → p j = false) → ls1 p n a = none
  | 0, _, _ => rfl
  | n + 1, a, h => by
    rw [ls1, if_neg (by rw [h a (Nat.le_refl _) (by omega)]; decide)]
    exact ls1_out (fun j h1 h2 => h j (by omega) (by omega))
theorem oI_ne {o : Option Nat} (h : ∀ k, o = some k → k < 1000) : oI o = -9 ↔ o = none := by
  cases o with
  | none => simp [oI]
  | some k =>
    have hk := h k rfl
    constructor
    · intro e
      have := nI_pos (n := k) (by omega)
      rw [show nI k = -9 from e] at this
      exact absurd (by decide) this
    · intro e; cases e
theorem n_inc1 (a : Nat) : nI a + Int32.ofInt 1 = nI (a + 1) := nI_1 a
theorem n_inc4 (a : Nat) : nI a + Int32.ofInt 4 = nI (a + 4) := nI_add a 4
theorem n_inc3 (a : Nat) : nI a + Int32.ofInt 3 = nI (a + 3) := nI_add a 3
/-- whether v is from lo to hi -/
def inB (v lo hi : Int32) : Bool := decide (lo ≤ v) && decide (v ≤ hi)
theorem inB_t {v lo hi : Int32} (h1 : ¬ v < lo) (h2 : ¬ hi < v) : inB v lo hi = true := by
  unfold inB
  rw [Int32.lt_iff_toInt_lt] at h1 h2
  simp only [Bool.and_eq_true, decide_eq_true_eq, Int32.le_iff_toInt_le]
  omega
theorem inB_f1 {v lo hi : Int32} (h : v < lo) : inB v lo hi = false := by
  unfold inB
  rw [Int32.lt_iff_toInt_lt] at h
  rw [Bool.and_eq_false_iff]
  left
  rw [decide_eq_false_iff_not, Int32.le_iff_toInt_le]
  omega
theorem inB_f2 {v lo hi : Int32} (h : hi < v) : inB v lo hi = false := by
  unfold inB
  rw [Int32.lt_iff_toInt_lt] at h
  rw [Bool.and_eq_false_iff]
  right
  rw [decide_eq_false_iff_not, Int32.le_iff_toInt_le]
  omega
theorem inB_nat {v : Int32} {a b : Nat} (hb : b < 2 ^ 31) (hab : a ≤ b) (h : inB v (nI a) (nI b) = true) : ∃ k, a ≤ k ∧ k ≤ b ∧ v = nI k := by
  unfold inB at h
  rw [Bool.and_eq_true, decide_eq_true_eq, decide_eq_true_eq, Int32.le_iff_toInt_le, Int32.le_iff_toInt_le, nI_toInt (by omega), nI_toInt hb] at h
  obtain ⟨j, hj, rfl⟩ := nI_of (x := v) (by rw [Int32.lt_iff_toInt_lt, Int32.toInt_zero]; omega)
  rw [nI_toInt hj] at h
  exact ⟨j, by omega, by omega, rfl⟩
theorem inB_of {k a b : Nat} (hb : b < 2 ^ 31) (h1 : a ≤ k) (h2 : k ≤ b) : inB (nI k) (nI a) (nI b) = true := by
  unfold inB
  rw [Bool.and_eq_true, decide_eq_true_eq, decide_eq_true_eq]
  exact ⟨nI_le h1 (by omega), nI_le h2 hb⟩
/-- a slot is free -/
def fr (f : Nat → Int32) : Nat → Bool := fun s => decide (f s = nI 0)
/-- the first free slot of a word -/
def fi (f : Nat → Int32) (w : Nat) : Option Nat := ls1 (fr f) 32 (32 * w)
