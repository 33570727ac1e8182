/-! bits: the given laws (bt, b_), pasted; then the count of the bits, the lowest bit, ranges of bits -/
def bt (x : Int32) (i : Nat) : Bool := x.toBitVec.getLsbD i
theorem b_ext {x y : Int32} (h : ∀ i, i < 32 → bt x i = bt y i) : x = y := Int32.toBitVec_inj.mp (BitVec.eq_of_getLsbD_eq (fun i hi => h i hi))
theorem b_or (x y : Int32) (i : Nat) : bt (x ||| y) i = (bt x i || bt y i) := by unfold bt; rw [Int32.toBitVec_or, BitVec.getLsbD_or]
theorem b_and (x y : Int32) (i : Nat) : bt (x &&& y) i = (bt x i && bt y i) := by unfold bt; rw [Int32.toBitVec_and, BitVec.getLsbD_and]
theorem b_xor (x y : Int32) (i : Nat) : bt (x ^^^ y) i = (bt x i ^^ bt y i) := by unfold bt; rw [Int32.toBitVec_xor, BitVec.getLsbD_xor]
theorem b_big {x : Int32} {i : Nat} (h : 32 ≤ i) : bt x i = false := BitVec.getLsbD_of_ge _ _ h
theorem b_255 (i : Nat) : bt 255 i = decide (i < 8) := by
  rcases Nat.lt_or_ge i 32 with h | h
  · exact (by decide +kernel : ∀ i, i < 32 → bt 255 i = decide (i < 8)) i h
  · rw [b_big h, decide_eq_false (by omega)]
theorem b_65535 (i : Nat) : bt 65535 i = decide (i < 16) := by
  rcases Nat.lt_or_ge i 32 with h | h
  · exact (by decide +kernel : ∀ i, i < 32 → bt 65535 i = decide (i < 16)) i h
  · rw [b_big h, decide_eq_false (by omega)]
theorem b_m1 : ∀ i, i < 32 → bt (-1) i = true := by decide +kernel
theorem b_0 (i : Nat) : bt 0 i = false := BitVec.getLsbD_zero
theorem s_l : ∀ n, n < 32 → ((nI n &&& 31).toBitVec.smod 32).toNat = n := by decide +kernel
theorem s_u : ∀ n, n < 32 → (((nI n).toUInt32 &&& Int32.toUInt32 31).toBitVec % 32).toNat = n := by decide +kernel
theorem b_shl (n : Nat) (hn : n < 32) (x : Int32) {i : Nat} (hi : i < 32) : bt (x <<< (nI n &&& 31)) i = (decide (n ≤ i) && bt x (i - n)) := by
  unfold bt
  rw [Int32.toBitVec_shiftLeft]
  show (x.toBitVec <<< ((nI n &&& 31).toBitVec.smod 32).toNat).getLsbD i = _
  rw [s_l n hn, BitVec.getLsbD_shiftLeft]
  rcases Nat.lt_or_ge i n with h | h
  · simp [h, Nat.not_le.mpr h]
  · simp [hi, h, Nat.not_lt.mpr h]
theorem b_ushr (n : Nat) (hn : n < 32) (x : Int32) (i : Nat) : bt ((x.toUInt32 >>> ((nI n).toUInt32 &&& Int32.toUInt32 31)).toInt32) i = bt x (n + i) := by
  show (x.toUInt32 >>> ((nI n).toUInt32 &&& Int32.toUInt32 31)).toBitVec.getLsbD i = x.toUInt32.toBitVec.getLsbD (n + i)
  rw [UInt32.toBitVec_shiftRight]
  show (x.toUInt32.toBitVec >>> (((nI n).toUInt32 &&& Int32.toUInt32 31).toBitVec % 32).toNat).getLsbD i = _
  rw [s_u n hn, BitVec.getLsbD_ushiftRight]
theorem b_sshr (n : Nat) (hn : n < 32) (x : Int32) {i : Nat} (hi : i < 32) : bt (x >>> (nI n &&& 31)) i = if n + i < 32 then bt x (n + i) else bt x 31 := by
  unfold bt
  rw [Int32.toBitVec_shiftRight]
  show (x.toBitVec.sshiftRight ((nI n &&& 31).toBitVec.smod 32).toNat).getLsbD i = _
  rw [s_l n hn, BitVec.getLsbD_sshiftRight, BitVec.msb_eq_getLsbD_last]
  simp [hi]
/-! how many bits are set: byte by byte -/
theorem nb_and (a b : Nat) : nI a &&& nI b = nI (a &&& b) := by
  apply Int32.toBitVec_inj.1
  show BitVec.ofNat 32 a &&& BitVec.ofNat 32 b = BitVec.ofNat 32 (a &&& b)
  apply BitVec.eq_of_getLsbD_eq
  intro i hi
  simp [hi]
theorem nb_split (l h m n : Nat) (hl : l < 256) (hm : m < 256) : (l + 256 * h) &&& (m + 256 * n) = (l &&& m) + 256 * (h &&& n) := by
  have h1 : ((l + 256 * h) &&& (m + 256 * n)) % 2 ^ 8 = (l &&& m) := by
    rw [Nat.and_mod_two_pow, show (l + 256 * h) % 2 ^ 8 = l by omega, show (m + 256 * n) % 2 ^ 8 = m by omega]
  have h2 : ((l + 256 * h) &&& (m + 256 * n)) / 2 ^ 8 = (h &&& n) := by
    rw [Nat.and_div_two_pow, show (l + 256 * h) / 2 ^ 8 = h by omega, show (m + 256 * n) / 2 ^ 8 = n by omega]
  omega
def t1 (b : Nat) : Nat := (b / 2) &&& 85
def t2 (v : Nat) : Nat := (v &&& 51) + ((v / 4) &&& 51)
theorem t1_in : ∀ b, b < 256 → ∀ c, c < 2 → ((b / 2 + 128 * c) &&& 85) = t1 b ∧ t1 b ≤ b := by decide +kernel
theorem t2_in : ∀ v, v < 256 → ∀ c, c < 4 → ((v / 4 + 64 * c) &&& 51) = (v / 4 &&& 51) := by decide +kernel
theorem t2_le : ∀ v, v < 256 → (v &&& 51) ≤ 51 ∧ ((v / 4) &&& 51) ≤ 51 := by decide +kernel
theorem t3_in : ∀ b, b < 256 → t2 (b - t1 b) % 16 ≤ 4 ∧ t2 (b - t1 b) / 16 ≤ 4 ∧ (t2 (b - t1 b) + t2 (b - t1 b) / 16) % 16 = fb_ct (fun i => b.testBit i) 8 ∧ fb_ct (fun i => b.testBit i) 8 ≤ 8 := by decide +kernel
theorem nb_15 : ∀ v, v < 256 → (v &&& 15) = v % 16 := by decide +kernel
/-- the first stage -/
theorem st1 {a b c d : Nat} (ha : a < 256) (hb : b < 256) (hc : c < 256) (hd : d < 256) : (a + 256 * (b + 256 * (c + 256 * d))) / 2 &&& 1431655765 = t1 a + 256 * (t1 b + 256 * (t1 c + 256 * t1 d)) := by
  rw [show (a + 256 * (b + 256 * (c + 256 * d))) / 2 = (a / 2 + 128 * (b % 2)) + 256 * ((b / 2 + 128 * (c % 2)) + 256 * ((c / 2 + 128 * (d % 2)) + 256 * (d / 2 + 128 * 0))) by omega, show 1431655765 = 85 + 256 * (85 + 256 * (85 + 256 * 85)) from rfl]
  rw [nb_split _ _ _ _ (by omega) (by omega), nb_split _ _ _ _ (by omega) (by omega), nb_split _ _ _ _ (by omega) (by omega), (t1_in a ha _ (by omega)).1, (t1_in b hb _ (by omega)).1, (t1_in c hc _ (by omega)).1, (t1_in d hd 0 (by omega)).1]
theorem st2 {a b c d : Nat} (ha : a < 256) (hb : b < 256) (hc : c < 256) (hd : d < 256) : ((a + 256 * (b + 256 * (c + 256 * d))) &&& 858993459) + ((a + 256 * (b + 256 * (c + 256 * d))) / 4 &&& 858993459) = t2 a + 256 * (t2 b + 256 * (t2 c + 256 * t2 d)) := by
  rw [show (a + 256 * (b + 256 * (c + 256 * d))) / 4 = (a / 4 + 64 * (b % 4)) + 256 * ((b / 4 + 64 * (c % 4)) + 256 * ((c / 4 + 64 * (d % 4)) + 256 * (d / 4 + 64 * 0))) by omega, show 858993459 = 51 + 256 * (51 + 256 * (51 + 256 * 51)) from rfl]
  rw [nb_split _ _ _ _ (by omega) (by omega), nb_split _ _ _ _ (by omega) (by omega), nb_split _ _ _ _ (by omega) (by omega), nb_split _ _ _ _ (by omega) (by omega), nb_split _ _ _ _ (by omega) (by omega), nb_split _ _ _ _ (by omega) (by omega), t2_in a ha _ (by omega), t2_in b hb _ (by omega), t2_in c hc _ (by omega), t2_in d hd 0 (by omega)]
  unfold t2
  omega
theorem st3 {a b c d : Nat} (ha : a % 16 ≤ 4 ∧ a / 16 ≤ 4) (hb : b % 16 ≤ 4 ∧ b / 16 ≤ 4) (hc : c % 16 ≤ 4 ∧ c / 16 ≤ 4) (hd : d % 16 ≤ 4 ∧ d / 16 ≤ 4) : (((a + 256 * (b + 256 * (c + 256 * d))) + (a + 256 * (b + 256 * (c + 256 * d))) / 16) &&& 252645135) = (a + a / 16) % 16 + 256 * ((b + b / 16) % 16 + 256 * ((c + c / 16) % 16 + 256 * ((d + d / 16) % 16))) := by
  rw [show (a + 256 * (b + 256 * (c + 256 * d))) + (a + 256 * (b + 256 * (c + 256 * d))) / 16 = (a + a / 16 + 16 * (b % 16)) + 256 * ((b + b / 16 + 16 * (c % 16)) + 256 * ((c + c / 16 + 16 * (d % 16)) + 256 * (d + d / 16))) by omega, show 252645135 = 15 + 256 * (15 + 256 * (15 + 256 * 15)) from rfl]
  rw [nb_split _ _ _ _ (by omega) (by omega), nb_split _ _ _ _ (by omega) (by omega), nb_split _ _ _ _ (by omega) (by omega), nb_15 _ (by omega), nb_15 _ (by omega), nb_15 _ (by omega), nb_15 _ (by omega)]
  omega
/-- how many bits are set -/
def pc (x : Int32) : Nat := fb_ct (bt x) 32
theorem pc_le (x : Int32) : pc x ≤ 32 := fb_ct_le _ _
theorem bt_n {n i : Nat} (h : n < 2 ^ 32) : bt (nI n) i = n.testBit i := by
  show (BitVec.ofNat 32 n).getLsbD i = _
  rw [BitVec.getLsbD_ofNat]
  by_cases hi : i < 32
  · simp [hi]
  · simp [hi]
    rw [Nat.testBit_lt_two_pow (Nat.lt_of_lt_of_le h (Nat.pow_le_pow_right (by decide) (by omega)))]
theorem bt_of (x : Int32) : ∃ n, n < 2 ^ 32 ∧ x = nI n := ⟨x.toBitVec.toNat, x.toBitVec.isLt, Int32.toBitVec_inj.1 (by show x.toBitVec = BitVec.ofNat 32 _; simp)⟩
theorem pc_bytes {a b c d : Nat} (ha : a < 256) (hb : b < 256) (hc : c < 256) (hd : d < 256) : pc (nI (a + 256 * (b + 256 * (c + 256 * d)))) = fb_ct (fun i => a.testBit i) 8 + fb_ct (fun i => b.testBit i) 8 + fb_ct (fun i => c.testBit i) 8 + fb_ct (fun i => d.testBit i) 8 := by
  have key : ∀ (l h j : Nat), l < 256 → (l + 256 * h).testBit j = if j < 8 then l.testBit j else h.testBit (j - 8) := fun l h j hl => by
    have := Nat.testBit_two_pow_mul_add h (show l < 2 ^ 8 from hl) j
    rw [Nat.add_comm]
    exact this
  unfold pc
  rw [show (32 : Nat) = 8 + (8 + (8 + 8)) from rfl, fb_ct_split, fb_ct_split, fb_ct_split]
  have hn : a + 256 * (b + 256 * (c + 256 * d)) < 2 ^ 32 := by omega
  rw [Nat.add_assoc, Nat.add_assoc]
  congr 1
  · exact fb_ct_cong (fun i hi => by rw [bt_n hn, key _ _ _ ha, if_pos hi])
  · congr 1
    · exact fb_ct_cong (fun i hi => by rw [bt_n hn, key _ _ _ ha, if_neg (by omega), key _ _ _ hb, if_pos (by omega), show 8 + i - 8 = i by omega])
    · congr 1
      · exact fb_ct_cong (fun i hi => by rw [bt_n hn, key _ _ _ ha, if_neg (by omega), key _ _ _ hb, if_neg (by omega), key _ _ _ hc, if_pos (by omega), show 8 + (8 + i) - 8 - 8 = i by omega])
      · exact fb_ct_cong (fun i hi => by rw [bt_n hn, key _ _ _ ha, if_neg (by omega), key _ _ _ hb, if_neg (by omega), key _ _ _ hc, if_neg (by omega), show 8 + (8 + (8 + i)) - 8 - 8 - 8 = i by omega])
/-- the last stages -/
theorem st4 {a b c d : Nat} (ha : a ≤ 8) (hb : b ≤ 8) (hc : c ≤ 8) (hd : d ≤ 8) : ((a + 256 * (b + 256 * (c + 256 * d)) + (a + 256 * (b + 256 * (c + 256 * d))) / 256) + (a + 256 * (b + 256 * (c + 256 * d)) + (a + 256 * (b + 256 * (c + 256 * d))) / 256) / 65536) % 64 = a + b + c + d := by
  rw [show a + 256 * (b + 256 * (c + 256 * d)) + (a + 256 * (b + 256 * (c + 256 * d))) / 256 = (a + b) + 256 * (b + c) + 65536 * (c + d) + 16777216 * d by omega]
  have e : ((a + b) + 256 * (b + c) + 65536 * (c + d) + 16777216 * d) / 65536 = (c + d) + 256 * d := by omega
  rw [e, show (a + b) + 256 * (b + c) + 65536 * (c + d) + 16777216 * d + ((c + d) + 256 * d) = (a + b + c + d) + 64 * (4 * (b + c) + 1024 * (c + d) + 262144 * d + 4 * d) by omega, Nat.add_mul_mod_self_left, Nat.mod_eq_of_lt (by omega)]
/-- a number by its bytes -/
theorem bytes (n : Nat) (h : n < 2 ^ 32) : ∃ a b c d, a < 256 ∧ b < 256 ∧ c < 256 ∧ d < 256 ∧ n = a + 256 * (b + 256 * (c + 256 * d)) := ⟨n % 256, n / 256 % 256, n / 65536 % 256, n / 16777216, by omega, by omega, by omega, by omega, by omega⟩
/-- what the JDK counts -/
theorem swar {x : Int32} : ∃ n n1 n2 n3 n4 : Nat, x = nI n ∧ n < 2 ^ 32 ∧ n1 = n - (n / 2 &&& 1431655765) ∧ (n / 2 &&& 1431655765) ≤ n ∧ n1 < 2 ^ 32 ∧ n2 = (n1 &&& 858993459) + (n1 / 4 &&& 858993459) ∧ n2 < 2 ^ 32 ∧ n3 = (n2 + n2 / 16 &&& 252645135) ∧ n3 < 2 ^ 32 ∧ n4 = n3 + n3 / 256 ∧ n4 < 2 ^ 32 ∧ (n4 + n4 / 65536) % 64 = pc x := by
  obtain ⟨n, hn, rfl⟩ := bt_of x
  obtain ⟨a, b, c, d, ha, hb, hc, hd, rfl⟩ := bytes n hn
  obtain ⟨-, a1⟩ := t1_in a ha 0 (by decide)
  obtain ⟨-, b1⟩ := t1_in b hb 0 (by decide)
  obtain ⟨-, c1⟩ := t1_in c hc 0 (by decide)
  obtain ⟨-, d1⟩ := t1_in d hd 0 (by decide)
  obtain ⟨a2, a3, a4, a5⟩ := t3_in a ha
  obtain ⟨b2, b3, b4, b5⟩ := t3_in b hb
  obtain ⟨c2, c3, c4, c5⟩ := t3_in c hc
  obtain ⟨d2, d3, d4, d5⟩ := t3_in d hd
  have e1 := st1 ha hb hc hd
  have e2 : a + 256 * (b + 256 * (c + 256 * d)) - ((a + 256 * (b + 256 * (c + 256 * d))) / 2 &&& 1431655765) = (a - t1 a) + 256 * ((b - t1 b) + 256 * ((c - t1 c) + 256 * (d - t1 d))) := by rw [e1]; omega
  have e3 := st2 (a := a - t1 a) (b := b - t1 b) (c := c - t1 c) (d := d - t1 d) (by omega) (by omega) (by omega) (by omega)
  have e4 := st3 (a := t2 (a - t1 a)) (b := t2 (b - t1 b)) (c := t2 (c - t1 c)) (d := t2 (d - t1 d)) ⟨a2, a3⟩ ⟨b2, b3⟩ ⟨c2, c3⟩ ⟨d2, d3⟩
  rw [a4, b4, c4, d4] at e4
  have e5 := st4 a5 b5 c5 d5
  refine ⟨_, _, _, _, _, rfl, hn, rfl, by rw [e1]; omega, by rw [e2]; omega, rfl, by rw [e2, e3]; omega, rfl, by rw [e2, e3, e4]; omega, rfl, by rw [e2, e3, e4]; omega, ?_⟩
  rw [e2, e3, e4, pc_bytes ha hb hc hd]
  exact e5
theorem ush {n : Nat} (h : n < 2 ^ 32) (j k : Nat) (hj : j < 32) (hk : 2 ^ j = k) : ((nI n).toUInt32 >>> ((nI j).toUInt32 &&& Int32.toUInt32 31)).toInt32 = nI (n / k) := by
  rw [← hk]
  exact pk_ushrN h _ _ (s_u j hj)
/-- the lowest bit that is set, and those below it -/
theorem low_split (n : Nat) (h : 0 < n) : ∃ i m, n = 2 ^ i * (2 * m + 1) := by
  induction n using Nat.strongRecOn with
  | ind n ih =>
    by_cases e : n % 2 = 1
    · exact ⟨0, n / 2, by omega⟩
    · obtain ⟨i, m, hm⟩ := ih (n / 2) (by omega) (by omega)
      refine ⟨i + 1, m, ?_⟩
      rw [Nat.pow_succ, Nat.mul_comm (2 ^ i) 2, Nat.mul_assoc, ← hm]
      omega
theorem low_bits {i m j : Nat} : (2 ^ i * (2 * m + 1)).testBit j = (if j < i then false else if j = i then true else m.testBit (j - i - 1)) := by
  have h := Nat.testBit_two_pow_mul_add (2 * m + 1) (Nat.pow_pos (n := i) (show 0 < 2 by decide)) j
  rw [Nat.add_zero] at h
  rw [h]
  by_cases e : j < i
  · simp [e]
  · simp only [e, if_false]
    have h2 := Nat.testBit_two_pow_mul_add m (show 1 < 2 ^ 1 by decide) (j - i)
    rw [show 2 ^ 1 * m + 1 = 2 * m + 1 by omega] at h2
    rw [h2]
    by_cases e2 : j = i
    · subst e2
      simp
    · simp [e2, show ¬ j - i < 1 by omega]
theorem low_pred {i m j : Nat} : (2 ^ i * (2 * m + 1) - 1).testBit j = (if j < i then true else if j = i then false else m.testBit (j - i - 1)) := by
  have hp : 0 < 2 ^ i := Nat.pow_pos (by decide)
  have e0 : 2 ^ i * (2 * m + 1) - 1 = 2 ^ i * (2 * m) + (2 ^ i - 1) := by
    rw [Nat.mul_add, Nat.mul_one]
    omega
  rw [e0, Nat.testBit_two_pow_mul_add (2 * m) (show 2 ^ i - 1 < 2 ^ i by omega) j]
  by_cases e : j < i
  · simp [e, Nat.testBit_two_pow_sub_one]
  · simp only [e, if_false]
    have h2 := Nat.testBit_two_pow_mul_add m (show 0 < 2 ^ 1 by decide) (j - i)
    rw [show 2 ^ 1 * m + 0 = 2 * m by omega] at h2
    rw [h2]
    by_cases e2 : j = i
    · subst e2
      simp
    · simp [e2, show ¬ j - i < 1 by omega]
theorem ct_lt (i : Nat) : ∀ n, fb_ct (fun j => decide (j < i)) n = (if n ≤ i then n else i)
  | 0 => by simp [fb_ct]
  | n + 1 => by
    rw [fb_ct_succ, ct_lt i n]
    by_cases e : n < i
    · simp [e, show n ≤ i by omega, show n + 1 ≤ i by omega]
    · simp [e]
      by_cases e2 : n ≤ i
      · simp [e2, show ¬ n + 1 ≤ i by omega]
        omega
      · simp [e2, show ¬ n + 1 ≤ i by omega]
/-- the lowest bit of a number that isn't 0, by the class's way -/
theorem low_pc {x : Int32} {i : Nat} (hi : i < 32) (h1 : bt x i = true) (h2 : ∀ j, j < i → bt x j = false) : pc ((x ^^^ (-1)) &&& (x - nI 1)) = i := by
  obtain ⟨n, hn, rfl⟩ := bt_of x
  have h0 : 0 < n := by
    rcases Nat.eq_zero_or_pos n with e | e
    · rw [e, bt_n (by decide)] at h1
      simp at h1
    · exact e
  obtain ⟨k, m, rfl⟩ := low_split n h0
  have hk : k = i := by
    rcases Nat.lt_trichotomy k i with q | q | q
    · have := h2 k q
      rw [bt_n hn, low_bits] at this
      simp at this
    · exact q
    · rw [bt_n hn, low_bits, if_pos q] at h1
      cases h1
  subst hk
  unfold pc
  rw [show fb_ct (bt ((nI (2 ^ k * (2 * m + 1)) ^^^ (-1)) &&& (nI (2 ^ k * (2 * m + 1)) - nI 1))) 32 = fb_ct (fun j => decide (j < k)) 32 from fb_ct_cong (fun j hj => by
    rw [b_and, b_xor, pk_sub (by omega), bt_n hn, bt_n (by omega), low_bits, low_pred, b_m1 j hj]
    by_cases e : j < k
    · simp [e]
    · by_cases e2 : j = k
      · simp [e2]
      · simp [e, e2])]
  rw [ct_lt, if_neg (by omega)]
/-- the bits of a word from a to e, e not with them -/
theorem rb_shl {lo i : Nat} (h : lo < 32) (hi : i < 32) : bt ((-1) <<< (nI lo &&& 31)) i = decide (lo ≤ i) := by
  rw [b_shl lo h (-1) hi]
  by_cases e : lo ≤ i
  · rw [b_m1 _ (by omega)]; simp
  · simp [e]
theorem rb_shr {hi i : Nat} (h : hi < 32) (h2 : i < 32) : bt (((-1 : Int32).toUInt32 >>> ((nI (31 - hi)).toUInt32 &&& Int32.toUInt32 31)).toInt32) i = decide (i ≤ hi) := by
  rw [b_ushr (31 - hi) (by omega) (-1) i]
  by_cases e : i ≤ hi
  · rw [b_m1 _ (by omega)]; simp [e]
  · rw [b_big (by omega)]; simp [e]
theorem fb_rng (x : Int32) : -2147483648 ≤ x.toInt ∧ x.toInt < 2147483648 := by
  have h1 := Int32.le_toInt x
  have h2 := Int32.toInt_lt x
  omega
theorem fb_bmod {z : Int} (h1 : -2147483648 ≤ z) (h2 : z < 2147483648) : z.bmod (2 ^ 32) = z := by
  rw [Int.bmod_eq_of_le (by omega) (by omega)]
theorem fb_subI {x y : Int32} (h1 : -2147483648 ≤ x.toInt - y.toInt) (h2 : x.toInt - y.toInt < 2147483648) : (x - y).toInt = x.toInt - y.toInt := by
  rw [Int32.toInt_sub, fb_bmod h1 h2]
theorem mx0 {a b : Nat} (ha : a < 2 ^ 30) (hb : b < 2 ^ 30) : (if nI a - nI b < nI 0 then nI 0 else nI a - nI b) = nI (a - b) := by
  rcases Nat.lt_or_ge a b with h | h
  · rw [if_pos (show nI a - nI b < nI 0 from pk_sneg hb h), show a - b = 0 by omega]
  · rw [pk_sub h, if_neg (nI_nlt (Nat.zero_le _) (by omega))]
/-- the other end: one less than e, from b on, not above 31 -/
def hiE (e b : Nat) : Int32 := if nI 31 < dn e - nI b then nI 31 else dn e - nI b
theorem dn_int {e : Nat} (h : e < 2 ^ 30) : (dn e).toInt = (e : Int) - 1 := by
  unfold dn
  rw [pk_sub_toInt h (by decide)]
  rfl
theorem dn_sub_int {e b : Nat} (h : e < 2 ^ 30) (hb : b < 2 ^ 30) : (dn e - nI b).toInt = (e : Int) - 1 - b := by
  have h1 := dn_int h
  have h2 := nI_toInt (n := b) (by omega)
  rw [fb_subI (by rw [h1, h2]; omega) (by rw [h1, h2]; omega), h1, h2]
theorem hiE_int {e b : Nat} (h : e < 2 ^ 30) (hb : b < 2 ^ 30) : (hiE e b).toInt = (if (31 : Int) < (e : Int) - 1 - b then 31 else (e : Int) - 1 - b) := by
  unfold hiE
  have h1 := dn_sub_int (e := e) (b := b) h hb
  by_cases c : nI 31 < dn e - nI b
  · rw [if_pos c]
    rw [Int32.lt_iff_toInt_lt, h1, nI_toInt (by decide)] at c
    rw [if_pos (by omega)]
    rfl
  · rw [if_neg c, h1]
    rw [Int32.lt_iff_toInt_lt, h1, nI_toInt (by decide)] at c
    rw [if_neg (by omega)]
theorem hiE_nat {e b lo : Nat} (h : e < 2 ^ 30) (hb : b < 2 ^ 30) (hlo : lo < 2 ^ 30) (c : nI lo ≤ hiE e b) : ∃ h9, h9 ≤ 31 ∧ lo ≤ h9 ∧ hiE e b = nI h9 ∧ ∀ i, i < 32 → (i ≤ h9 ↔ b + i < e) := by
  rw [Int32.le_iff_toInt_le, nI_toInt (by omega), hiE_int h hb] at c
  by_cases q : (31 : Int) < (e : Int) - 1 - b
  · rw [if_pos q] at c
    refine ⟨31, by omega, by omega, ?_, fun i hi => by omega⟩
    apply Int32.toInt_inj.1
    rw [hiE_int h hb, if_pos q]
    rfl
  · rw [if_neg q] at c
    refine ⟨e - 1 - b, by omega, by omega, ?_, fun i hi => by omega⟩
    apply Int32.toInt_inj.1
    rw [hiE_int h hb, if_neg q, nI_toInt (by omega)]
    omega
theorem hiE_out {e b lo : Nat} (h : e < 2 ^ 30) (hb : b < 2 ^ 30) (hlo : lo < 2 ^ 30) (c : ¬ nI lo ≤ hiE e b) : ∀ i, i < 32 → ¬ (lo ≤ i ∧ b + i < e) := by
  rw [Int32.le_iff_toInt_le, nI_toInt (by omega), hiE_int h hb] at c
  intro i hi q
  by_cases q2 : (31 : Int) < (e : Int) - 1 - b
  · rw [if_pos q2] at c
    omega
  · rw [if_neg q2] at c
    omega
