/-! ===== Int32 by its bits: bt x i ===== -/
def bt (x : Int32) (i : Nat) : Bool := x.toBitVec.getLsbD i
theorem b_ext {x y : Int32} (h : ∀ i, i < 32 → bt x i = bt y i) : x = y := Int32.toBitVec_inj.mp (BitVec.eq_of_getLsbD_eq (fun i hi => h i hi))
theorem b_or (x y : Int32) (i : Nat) : bt (x ||| y) i = (bt x i || bt y i) := by unfold bt; rw [Int32.toBitVec_or, BitVec.getLsbD_or]
theorem b_and (x y : Int32) (i : Nat) : bt (x &&& y) i = (bt x i && bt y i) := by unfold bt; rw [Int32.toBitVec_and, BitVec.getLsbD_and]
theorem b_xor (x y : Int32) (i : Nat) : bt (x ^^^ y) i = (bt x i ^^ bt y i) := by unfold bt; rw [Int32.toBitVec_xor, BitVec.getLsbD_xor]
theorem b_big {x : Int32} {i : Nat} (h : 32 ≤ i) : bt x i = false := BitVec.getLsbD_of_ge _ _ h
theorem b_255 (i : Nat) : bt 255 i = decide (i < 8) := by
  rcases Nat.lt_or_ge i 32 with h | h
  · exact (by decide +kernel : ∀ i, i < 32 → bt 255 i = decide (i < 8)) i h
  · rw [b_big h, decide_eq_false (by omega)]
theorem b_65535 (i : Nat) : bt 65535 i = decide (i < 16) := by
  rcases Nat.lt_or_ge i 32 with h | h
  · exact (by decide +kernel : ∀ i, i < 32 → bt 65535 i = decide (i < 16)) i h
  · rw [b_big h, decide_eq_false (by omega)]
theorem b_m1 : ∀ i, i < 32 → bt (-1) i = true := by decide +kernel
theorem b_0 (i : Nat) : bt 0 i = false := BitVec.getLsbD_zero
theorem s_l : ∀ n, n < 32 → ((nI n &&& 31).toBitVec.smod 32).toNat = n := by decide +kernel
theorem s_u : ∀ n, n < 32 → (((nI n).toUInt32 &&& Int32.toUInt32 31).toBitVec % 32).toNat = n := by decide +kernel
theorem b_shl (n : Nat) (hn : n < 32) (x : Int32) {i : Nat} (hi : i < 32) : bt (x <<< (nI n &&& 31)) i = (decide (n ≤ i) && bt x (i - n)) := by
  unfold bt
  rw [Int32.toBitVec_shiftLeft]
  show (x.toBitVec <<< ((nI n &&& 31).toBitVec.smod 32).toNat).getLsbD i = _
  rw [s_l n hn, BitVec.getLsbD_shiftLeft]
  rcases Nat.lt_or_ge i n with h | h
  · simp [h, Nat.not_le.mpr h]
  · simp [hi, h, Nat.not_lt.mpr h]
theorem b_ushr (n : Nat) (hn : n < 32) (x : Int32) (i : Nat) : bt ((x.toUInt32 >>> ((nI n).toUInt32 &&& Int32.toUInt32 31)).toInt32) i = bt x (n + i) := by
  show (x.toUInt32 >>> ((nI n).toUInt32 &&& Int32.toUInt32 31)).toBitVec.getLsbD i = x.toUInt32.toBitVec.getLsbD (n + i)
  rw [UInt32.toBitVec_shiftRight]
  show (x.toUInt32.toBitVec >>> (((nI n).toUInt32 &&& Int32.toUInt32 31).toBitVec % 32).toNat).getLsbD i = _
  rw [s_u n hn, BitVec.getLsbD_ushiftRight]
theorem b_sshr (n : Nat) (hn : n < 32) (x : Int32) {i : Nat} (hi : i < 32) : bt (x >>> (nI n &&& 31)) i = if n + i < 32 then bt x (n + i) else bt x 31 := by
  unfold bt
  rw [Int32.toBitVec_shiftRight]
  show (x.toBitVec.sshiftRight ((nI n &&& 31).toBitVec.smod 32).toNat).getLsbD i = _
  rw [s_l n hn, BitVec.getLsbD_sshiftRight, BitVec.msb_eq_getLsbD_last]
  simp [hi]
theorem b_shl8 (x : Int32) {i : Nat} (hi : i < 32) : bt (x <<< ((8 : Int32) &&& 31)) i = (decide (8 ≤ i) && bt x (i - 8)) := b_shl 8 (by omega) x hi
theorem b_shl16 (x : Int32) {i : Nat} (hi : i < 32) : bt (x <<< ((16 : Int32) &&& 31)) i = (decide (16 ≤ i) && bt x (i - 16)) := b_shl 16 (by omega) x hi
theorem b_shl24 (x : Int32) {i : Nat} (hi : i < 32) : bt (x <<< ((24 : Int32) &&& 31)) i = (decide (24 ≤ i) && bt x (i - 24)) := b_shl 24 (by omega) x hi
theorem b_sshr8 (x : Int32) {i : Nat} (hi : i < 32) : bt (x >>> ((8 : Int32) &&& 31)) i = if 8 + i < 32 then bt x (8 + i) else bt x 31 := b_sshr 8 (by omega) x hi
/-! ===== lN n to 2^64: shifts, and, or, masks, one bit ===== -/
theorem wb_tb (n : Nat) : (lN n).toBitVec = BitVec.ofNat 64 n := rfl
theorem wb_inj {a b : Int64} (h : a.toBitVec = b.toBitVec) : a = b := Int64.toBitVec_inj.mp h
theorem wb_tn {n : Nat} (h : n < 2 ^ 64) : (lN n).toBitVec.toNat = n := by rw [wb_tb, BitVec.toNat_ofNat, Nat.mod_eq_of_lt h]
theorem wb_of (x : Int64) : ∃ n, n < 2 ^ 64 ∧ x = lN n := ⟨x.toBitVec.toNat, x.toBitVec.isLt, wb_inj (by rw [wb_tb]; simp)⟩
theorem wb_of32 (x : Int32) : ∃ n, n < 2 ^ 32 ∧ x = nI n := ⟨x.toBitVec.toNat, x.toBitVec.isLt, Int32.toBitVec_inj.mp (by show _ = BitVec.ofNat 32 _; simp)⟩
theorem wb_c : ∀ k, k < 64 → ((nI k).toInt64 &&& 63) = lN k := by decide +kernel
theorem wb_cu : ∀ k, k < 64 → ((nI k).toInt64.toUInt64 &&& Int64.toUInt64 63) = UInt64.ofNat k := by decide +kernel
theorem wb_sm : ∀ k, k < 64 → (BitVec.ofNat 64 k).smod 64 = BitVec.ofNat 64 k := by decide +kernel
theorem wb_pw {a b : Nat} (h : a ≤ b) : 2 ^ b = 2 ^ a * 2 ^ (b - a) := by rw [← Nat.pow_add]; congr 1; omega
theorem wb_lt2 {a b : Nat} (h : a < b) : 2 ^ a < 2 ^ b := Nat.pow_lt_pow_right (by decide) h
theorem wb_mod (n : Nat) : lN n = lN (n % 2 ^ 64) := wb_inj (by rw [wb_tb, wb_tb]; apply BitVec.eq_of_toNat_eq; rw [BitVec.toNat_ofNat, BitVec.toNat_ofNat, Nat.mod_mod])
theorem wb_shr {n k : Nat} (hn : n < 2 ^ 64) (hk : k < 64) : ((lN n).toUInt64 >>> ((nI k).toInt64.toUInt64 &&& Int64.toUInt64 63)).toInt64 = lN (n / 2 ^ k) := by
  rw [wb_cu k hk]
  apply wb_inj
  apply BitVec.eq_of_toNat_eq
  show ((lN n).toUInt64 >>> UInt64.ofNat k).toNat = (BitVec.ofNat 64 _).toNat
  have h1 : (UInt64.ofNat k).toNat = k := by
    show (BitVec.ofNat 64 k).toNat = k
    rw [BitVec.toNat_ofNat, Nat.mod_eq_of_lt (by omega)]
  have h2 : (lN n).toUInt64.toNat = n := wb_tn hn
  rw [UInt64.toNat_shiftRight, h1, h2, Nat.mod_eq_of_lt hk, Nat.shiftRight_eq_div_pow, BitVec.toNat_ofNat, Nat.mod_eq_of_lt (Nat.lt_of_le_of_lt (Nat.div_le_self _ _) hn)]
theorem wb_shl (n : Nat) {k : Nat} (hk : k < 64) : lN n <<< ((nI k).toInt64 &&& 63) = lN (n * 2 ^ k) := by
  rw [wb_c k hk]
  apply wb_inj
  rw [Int64.toBitVec_shiftLeft, wb_tb, wb_tb, wb_tb, wb_sm k hk]
  apply BitVec.eq_of_toNat_eq
  rw [BitVec.shiftLeft_eq', BitVec.toNat_shiftLeft, BitVec.toNat_ofNat, BitVec.toNat_ofNat, BitVec.toNat_ofNat, Nat.mod_eq_of_lt (show k < 2 ^ 64 by omega), Nat.shiftLeft_eq, Nat.mul_mod, Nat.mod_mod, ← Nat.mul_mod]
theorem wb_and {a b : Nat} (ha : a < 2 ^ 64) (hb : b < 2 ^ 64) : lN a &&& lN b = lN (a &&& b) := by
  apply wb_inj
  rw [Int64.toBitVec_and, wb_tb, wb_tb, wb_tb]
  apply BitVec.eq_of_toNat_eq
  rw [BitVec.toNat_and, BitVec.toNat_ofNat, BitVec.toNat_ofNat, BitVec.toNat_ofNat, Nat.mod_eq_of_lt ha, Nat.mod_eq_of_lt hb, Nat.mod_eq_of_lt (Nat.and_lt_two_pow _ hb)]
theorem wb_or {a b : Nat} (ha : a < 2 ^ 64) (hb : b < 2 ^ 64) : lN a ||| lN b = lN (a ||| b) := by
  apply wb_inj
  rw [Int64.toBitVec_or, wb_tb, wb_tb, wb_tb]
  apply BitVec.eq_of_toNat_eq
  rw [BitVec.toNat_or, BitVec.toNat_ofNat, BitVec.toNat_ofNat, BitVec.toNat_ofNat, Nat.mod_eq_of_lt ha, Nat.mod_eq_of_lt hb, Nat.mod_eq_of_lt (Nat.or_lt_two_pow ha hb)]
theorem wb_mask {n k : Nat} (hn : n < 2 ^ 64) (hk : k < 64) : lN n &&& lN (2 ^ k - 1) = lN (n % 2 ^ k) := by
  rw [wb_and hn (by have := wb_lt2 hk; omega), Nat.and_two_pow_sub_one_eq_mod]
theorem wb_a1 {n : Nat} (hn : n < 2 ^ 64) : lN n &&& 1 = lN (n % 2) := wb_mask (k := 1) hn (by decide)
theorem wb_bit {n k : Nat} (hn : n < 2 ^ 64) (hk : k < 64) : ((lN n).toUInt64 >>> ((nI k).toInt64.toUInt64 &&& Int64.toUInt64 63)).toInt64 &&& 1 = lN (n / 2 ^ k % 2) := by
  rw [wb_shr hn hk, wb_a1 (Nat.lt_of_le_of_lt (Nat.div_le_self _ _) hn)]
theorem wb_xor {q k : Nat} (hk : k < 63) (h : 2 ^ k ≤ q) (h2 : q < 2 ^ (k + 1)) : lN q ^^^ lN (2 ^ k) = lN (q - 2 ^ k) := by
  obtain ⟨r, rfl⟩ : ∃ r, q = 2 ^ k + r := ⟨q - 2 ^ k, by omega⟩
  have hr : r < 2 ^ k := by rw [Nat.pow_succ] at h2; omega
  have hx : (2 ^ k + r) ^^^ 2 ^ k = r := by
    apply Nat.eq_of_testBit_eq
    intro i
    rw [Nat.testBit_xor, Nat.testBit_two_pow]
    rcases Nat.lt_trichotomy i k with h | h | h
    · rw [Nat.testBit_two_pow_add_gt h]
      simp [show ¬ k = i by omega]
    · subst h
      rw [Nat.testBit_two_pow_add_eq]
      simp
    · have a1 : 2 ^ (k + 1) ≤ 2 ^ i := Nat.pow_le_pow_right (by decide) h
      rw [Nat.testBit_lt_two_pow (show 2 ^ k + r < 2 ^ i by omega), Nat.testBit_lt_two_pow (show r < 2 ^ i by omega)]
      simp [show ¬ k = i by omega]
  have b1 := wb_lt2 (show k + 1 < 64 by omega)
  have b2 := wb_lt2 (show k < 64 by omega)
  apply wb_inj
  rw [Int64.toBitVec_xor, wb_tb, wb_tb, wb_tb]
  apply BitVec.eq_of_toNat_eq
  rw [BitVec.toNat_xor, BitVec.toNat_ofNat, BitVec.toNat_ofNat, BitVec.toNat_ofNat, Nat.mod_eq_of_lt (by omega : 2 ^ k + r < 2 ^ 64), Nat.mod_eq_of_lt b2, hx, Nat.add_sub_cancel_left, Nat.mod_eq_of_lt (by omega)]
/-! ===== lN: masks, 'or' of parts that don't overlap is a sum ===== -/
theorem u_tn {n : Nat} (h : n < 2 ^ 64) : (UInt64.ofNat n).toNat = n := Nat.mod_eq_of_lt h
theorem g_and {a b c : Nat} (ha : a < 2 ^ 64) (hb : b < 2 ^ 64) (hc : a &&& b = c) : lN a &&& lN b = lN c := by
  subst hc
  have h : UInt64.ofNat a &&& UInt64.ofNat b = UInt64.ofNat (a &&& b) := UInt64.toNat_inj.mp (by rw [UInt64.toNat_and, u_tn ha, u_tn hb, u_tn (Nat.and_lt_two_pow a hb)])
  have h2 := congrArg UInt64.toInt64 h
  exact h2
theorem g_and1 {a : Nat} (ha : a < 2 ^ 64) : lN a &&& 1 = lN (a % 2) := g_and (b := 1) ha (by decide) (Nat.and_two_pow_sub_one_eq_mod a 1)
theorem g_mask {a s p : Nat} (hp : 2 ^ s = p) (hs : s < 64) (ha : a < 2 ^ 64) : lN a &&& lN (p - 1) = lN (a % p) := by
  subst hp
  have := Nat.pow_lt_pow_right (show 1 < 2 by decide) hs
  exact g_and ha (by omega) (Nat.and_two_pow_sub_one_eq_mod a s)
theorem g_or {k p a b : Nat} (hp : 2 ^ k = p) (ha : a < p) (h : b * p + a < 2 ^ 64) : lN (b * p) ||| lN a = lN (b * p + a) := by
  subst hp
  have h1 : b * 2 ^ k ||| a = b * 2 ^ k + a := by rw [← Nat.shiftLeft_eq, Nat.shiftLeft_add_eq_or_of_lt ha]
  have h3 : UInt64.ofNat (b * 2 ^ k) ||| UInt64.ofNat a = UInt64.ofNat (b * 2 ^ k + a) := UInt64.toNat_inj.mp (by rw [UInt64.toNat_or, u_tn (by omega), u_tn (by omega), u_tn h, h1])
  have h2 := congrArg UInt64.toInt64 h3
  exact h2
theorem g_or' {k p a b : Nat} (hp : 2 ^ k = p) (ha : a < p) (h : a + b * p < 2 ^ 64) : lN a ||| lN (b * p) = lN (a + b * p) := by
  rw [Int64.or_comm, g_or hp ha (by omega), Nat.add_comm]
theorem g_ushr {a k p : Nat} {y : UInt64} (hy : y = UInt64.ofNat k) (hk : k < 64) (hp : 2 ^ k = p) (ha : a < 2 ^ 64) : ((lN a).toUInt64 >>> y).toInt64 = lN (a / p) := by
  subst hy hp
  have h : UInt64.ofNat a >>> UInt64.ofNat k = UInt64.ofNat (a / 2 ^ k) := UInt64.toNat_inj.mp (by rw [UInt64.toNat_shiftRight, u_tn ha, u_tn (by omega), u_tn (Nat.lt_of_le_of_lt (Nat.div_le_self _ _) ha), Nat.mod_eq_of_lt hk, Nat.shiftRight_eq_div_pow])
  have h2 := congrArg UInt64.toInt64 h
  exact h2
theorem g_shl {a k p : Nat} {y : Int64} (hy : y.toBitVec.smod 64 = BitVec.ofNat 64 k) (hk : k < 64) (hp : 2 ^ k = p) (ha : a < 2 ^ 64) : lN a <<< y = lN (a * p) := by
  subst hp
  apply Int64.toBitVec_inj.mp
  rw [Int64.toBitVec_shiftLeft, hy]
  apply BitVec.eq_of_toNat_eq
  have hb : (lN a).toBitVec.toNat = a := Nat.mod_eq_of_lt ha
  have hk' : (BitVec.ofNat 64 k).toNat = k := Nat.mod_eq_of_lt (by omega)
  have h : ((lN a).toBitVec <<< BitVec.ofNat 64 k).toNat = (a * 2 ^ k) % 2 ^ 64 := by simp only [BitVec.shiftLeft_eq', BitVec.toNat_shiftLeft, hb, hk', Nat.shiftLeft_eq]
  exact h
/-! ===== the mathematics: bits, which kind is below which ===== -/
theorem vp_in_mono {x : Int32} {a b : Nat} (h : vp_in x a) (hab : a ≤ b) : vp_in x b := fun q => h (q.imp id (fun z => Nat.le_trans hab z))
def blI (bl : Nat → Nat → Bool) (x y : Int32) : Bool := bl x.toNatClampNeg y.toNatClampNeg
theorem blI_nI (bl : Nat → Nat → Bool) {i j : Nat} (hi : i < 2 ^ 31) (hj : j < 2 ^ 31) : blI bl (nI i) (nI j) = bl i j := by
  unfold blI
  rw [nI_clamp hi, nI_clamp hj]
def kAV (bl : Nat → Nat → Bool) (av : Nat → Int32) (nk : Nat) : Prop := ∀ i, i < nk → ∀ j, j < 32 → bt (av i) j = bl i j
theorem k_and1 (y : Int32) : (y &&& 1 = 0) ↔ bt y 0 = false := by
  constructor
  · intro h
    have h1 := b_and y 1 0
    rw [h, b_0, (by decide : bt (1 : Int32) 0 = true), Bool.and_true] at h1
    exact h1.symm
  · intro h
    apply b_ext
    intro i hi
    rw [b_and, b_0]
    rcases Nat.eq_zero_or_pos i with h0 | h0
    · subst h0
      rw [h]
      rfl
    · rw [(by decide +kernel : ∀ i, i < 32 → 0 < i → bt (1 : Int32) i = false) i hi h0, Bool.and_false]
theorem kAV_bit {bl : Nat → Nat → Bool} {av : Nat → Int32} {nk : Nat} (h : kAV bl av nk) (hn : nk ≤ 32) {x y : Int32} (hx : vp_in x nk) (hy : vp_in y 32) : (((av x.toNatClampNeg).toUInt32 >>> (y.toUInt32 &&& Int32.toUInt32 31)).toInt32 &&& 1 = 0) ↔ blI bl x y = false := by
  obtain ⟨i, hi, rfl⟩ := vp_in_of hx (by omega)
  obtain ⟨j, hj, rfl⟩ := vp_in_of hy (by decide)
  rw [k_and1, b_ushr j hj, Nat.add_zero, blI_nI bl (by omega) (by omega), nI_clamp (by omega), h i hi j hj]
/-- what holds from the beginning: kind i (below 20) is below j -/
def bl0 (i j : Nat) : Bool := decide (i = j) || (decide (7 < i) && decide (j = 7)) || ((decide (i = 10) || decide (i = 11) || decide (i = 13) || decide (i = 14)) && decide (j = 8))
/-- the parents p of n classes, and what they make of 'below' -/
def kBL (bl : Nat → Nat → Bool) (pr : Nat → Nat) (n : Nat) : Prop := (∀ i, i < 20 → ∀ j, j < 32 → bl i j = bl0 i j) ∧ ∀ i, i < n → (pr i = 7 ∨ pr i = 19 ∨ (20 ≤ pr i ∧ pr i < 20 + i)) ∧ ∀ j, j < 32 → bl (20 + i) j = (decide (20 + i = j) || bl (pr i) j)
theorem kBL_refl {bl : Nat → Nat → Bool} {pr : Nat → Nat} {n : Nat} (h : kBL bl pr n) (hn : n ≤ 12) {i : Nat} (hi : i < 20 + n) : bl i i = true := by
  rcases Nat.lt_or_ge i 20 with h1 | h1
  · rw [h.1 i h1 i (by omega)]
    simp [bl0]
  · obtain ⟨k, rfl⟩ : ∃ k, i = 20 + k := ⟨i - 20, by omega⟩
    rw [(h.2 k (by omega)).2 _ (by omega)]
    simp
theorem bl0_le : ∀ i, i < 20 → ∀ j, j < 32 → bl0 i j = true → j ≤ i := by decide +kernel
theorem bl0_ch1 : ∀ i, i < 20 → ∀ j, j < 32 → ∀ k, k < 32 → (!(bl0 i j && bl0 i k && decide (j ≤ k)) || bl0 k j) = true := by decide +kernel
theorem bl0_ch (i : Nat) (hi : i < 20) (j : Nat) (hj : j < 32) (k : Nat) (hk : k < 32) (h1 : bl0 i j = true) (h2 : bl0 i k = true) (h3 : j ≤ k) : bl0 k j = true := by
  have h := bl0_ch1 i hi j hj k hk
  rw [h1, h2, decide_eq_true h3] at h
  simpa using h
theorem kBL_le {bl : Nat → Nat → Bool} {pr : Nat → Nat} {n : Nat} (h : kBL bl pr n) (hn : n ≤ 12) : ∀ (i j : Nat), i < 20 + n → j < 32 → bl i j = true → j ≤ i := by
  intro i
  induction i using Nat.strongRecOn with
  | ind i ih =>
    intro j hi hj hb
    rcases Nat.lt_or_ge i 20 with h1 | h1
    · rw [h.1 i h1 j hj] at hb
      exact bl0_le i h1 j hj hb
    · obtain ⟨k, rfl⟩ : ∃ k, i = 20 + k := ⟨i - 20, by omega⟩
      obtain ⟨h2, h3⟩ := h.2 k (by omega)
      rw [h3 j hj, Bool.or_eq_true, decide_eq_true_eq] at hb
      rcases hb with hb | hb
      · omega
      · have := ih (pr k) (by omega) j (by omega) hj hb
        omega
theorem kBL_ch {bl : Nat → Nat → Bool} {pr : Nat → Nat} {n : Nat} (h : kBL bl pr n) (hn : n ≤ 12) : ∀ (i j k : Nat), i < 20 + n → j < 32 → k < 32 → bl i j = true → bl i k = true → j ≤ k → bl k j = true := by
  intro i
  induction i using Nat.strongRecOn with
  | ind i ih =>
    intro j k hi hj hk hb hc hjk
    rcases Nat.lt_or_ge i 20 with h1 | h1
    · have hk1 := kBL_le h hn i k hi hk hc
      rw [h.1 i h1 j hj] at hb
      rw [h.1 i h1 k hk] at hc
      rw [h.1 k (by omega) j hj]
      exact bl0_ch i h1 j hj k hk hb hc hjk
    · obtain ⟨z, rfl⟩ : ∃ z, i = 20 + z := ⟨i - 20, by omega⟩
      obtain ⟨h2, h3⟩ := h.2 z (by omega)
      have hc' := hc
      rw [h3 k hk, Bool.or_eq_true, decide_eq_true_eq] at hc
      rcases hc with hc | hc
      · rw [← hc]; exact hb
      · rw [h3 j hj, Bool.or_eq_true, decide_eq_true_eq] at hb
        rcases hb with hb | hb
        · have := kBL_le h hn _ k (by omega : pr z < 20 + n) hk hc
          omega
        · exact ih (pr z) (by omega) j k (by omega) hj hk hb hc hjk
/-- the search from above, and the search from below -/
def mtop (P : Nat → Bool) : Nat → Int32
  | 0 => -1
  | k + 1 => if P k = true then nI k else mtop P k
def mup (P : Nat → Bool) : Nat → Nat → Int32
  | 0, _ => -1
  | n + 1, i => if P i = true then nI i else mup P n (i + 1)
def mall (P : Nat → Bool) : Nat → Bool
  | 0 => true
  | k + 1 => mall P k && P k
theorem mall_iff (P : Nat → Bool) (n : Nat) : mall P n = true ↔ ∀ k, k < n → P k = true := by
  induction n with
  | zero => exact ⟨fun _ k h => absurd h (Nat.not_lt_zero k), fun _ => rfl⟩
  | succ n ih =>
    unfold mall
    rw [Bool.and_eq_true, ih]
    exact ⟨fun h k hk => by
      rcases Nat.lt_or_ge k n with q | q
      · exact h.1 k q
      · rw [show k = n by omega]; exact h.2, fun h => ⟨fun k hk => h k (by omega), h n (by omega)⟩⟩
theorem mup_none {P : Nat → Bool} : ∀ (n i : Nat), (∀ k, i ≤ k → k < i + n → P k = false) → mup P n i = -1
  | 0, _, _ => rfl
  | n + 1, i, h => by
    unfold mup
    rw [h i (Nat.le_refl i) (by omega), if_neg (by decide)]
    exact mup_none n (i + 1) (fun k h1 h2 => h k (by omega) (by omega))
theorem mup_some {P : Nat → Bool} {z : Nat} (hz : P z = true) : ∀ (n i : Nat), i ≤ z → z < i + n → (∀ k, i ≤ k → k < z → P k = false) → mup P n i = nI z
  | 0, i, h1, h2, _ => by omega
  | n + 1, i, h1, h2, h => by
    unfold mup
    rcases Nat.eq_or_lt_of_le h1 with q | q
    · subst q
      rw [if_pos hz]
    · rw [h i (Nat.le_refl i) q, if_neg (by decide)]
      exact mup_some hz n (i + 1) q (by omega) (fun k h3 h4 => h k (by omega) h4)
theorem mtop_none {P : Nat → Bool} : ∀ (n : Nat), (∀ k, k < n → P k = false) → mtop P n = -1
  | 0, _ => rfl
  | n + 1, h => by
    unfold mtop
    rw [h n (by omega), if_neg (by decide)]
    exact mtop_none n (fun k hk => h k (by omega))
theorem mtop_cases (P : Nat → Bool) : ∀ (n : Nat), (∀ k, k < n → P k = false) ∨ ∃ z, z < n ∧ P z = true ∧ mtop P n = nI z ∧ ∀ k, k < n → P k = true → k ≤ z
  | 0 => Or.inl (fun k h => absurd h (Nat.not_lt_zero k))
  | n + 1 => by
    by_cases h : P n = true
    · exact Or.inr ⟨n, by omega, h, by unfold mtop; rw [if_pos h], fun k hk _ => by omega⟩
    · rcases mtop_cases P n with q | ⟨z, h1, h2, h3, h4⟩
      · refine Or.inl (fun k hk => ?_)
        rcases Nat.lt_or_ge k n with q1 | q1
        · exact q k q1
        · rw [show k = n by omega]; exact Bool.eq_false_iff.mpr h
      · refine Or.inr ⟨z, by omega, h2, by unfold mtop; rw [if_neg h]; exact h3, fun k hk hp => ?_⟩
        rcases Nat.lt_or_ge k n with q1 | q1
        · exact h4 k q1 hp
        · rw [show k = n by omega] at hp; exact absurd hp h
/-- the least common kind, both ways -/
theorem meet_same {bl : Nat → Nat → Bool} {pr : Nat → Nat} {n : Nat} (h : kBL bl pr n) (hn : n ≤ 12) {a b : Nat} (ha : a < 20 + n) (hb : b < 20 + n) :
    mtop (fun k => bl a k && bl b k) (20 + n) = mup (fun c => (bl a c && bl b c) && mall (fun d => !(bl a d && bl b d) || bl c d) (20 + n)) (20 + n) 0 := by
  rcases mtop_cases (fun k => bl a k && bl b k) (20 + n) with q | ⟨z, h1, h2, h3, h4⟩
  · rw [mtop_none _ q, mup_none]
    intro k _ hk
    have := q k (by omega)
    try dsimp only at this ⊢
    rw [this, Bool.false_and]
  · rw [h3]
    symm
    try dsimp only at h2
    obtain ⟨g1, g2⟩ := (Bool.and_eq_true _ _).mp h2
    refine mup_some ?_ _ 0 (Nat.zero_le _) (by omega) ?_
    · try dsimp only
      rw [h2, Bool.true_and, mall_iff]
      intro d hd
      cases hx : (bl a d && bl b d)
      · rfl
      · have := h4 d hd hx
        rw [Bool.and_eq_true] at hx
        rw [kBL_ch h hn a d z ha (by omega) (by omega) hx.1 g1 this]
        rfl
    · intro k _ hk
      try dsimp only
      cases hx : (bl a k && bl b k)
      · rfl
      · rw [Bool.true_and]
        apply Bool.eq_false_iff.mpr
        intro hm
        have := (mall_iff _ _).mp hm z h1
        try dsimp only at this
        rw [h2, Bool.not_true, Bool.false_or] at this
        have := kBL_le h hn k z (by omega) (by omega) this
        omega
/-! ===== a TYPE as one number: its result, how many places, the places ===== -/
def hiP (p : Nat → Nat) : Nat → Nat
  | 0 => 0
  | k + 1 => hiP p k + p k * 2 ^ (9 + 5 * k)
def enc (r : Nat) (p : Nat → Nat) (m : Nat) : Nat := r + 32 * m + hiP p m
theorem pw5 (k : Nat) : 2 ^ (9 + 5 * (k + 1)) = 32 * 2 ^ (9 + 5 * k) := by
  rw [show 9 + 5 * (k + 1) = 5 + (9 + 5 * k) by omega, Nat.pow_add]
theorem hiP_lt {p : Nat → Nat} : ∀ (m : Nat), (∀ k, k < m → p k < 32) → hiP p m + 512 ≤ 2 ^ (9 + 5 * m)
  | 0, _ => by
    show 0 + 512 ≤ 2 ^ 9
    decide
  | m + 1, h => by
    have ih := hiP_lt m (fun k hk => h k (by omega))
    have h1 : p m * 2 ^ (9 + 5 * m) ≤ 31 * 2 ^ (9 + 5 * m) := Nat.mul_le_mul_right _ (by have := h m (by omega); omega)
    unfold hiP
    rw [pw5]
    omega
theorem hiP_dvd (p : Nat → Nat) : ∀ (m : Nat), ∃ t, hiP p m = 512 * t
  | 0 => ⟨0, rfl⟩
  | m + 1 => by
    obtain ⟨t, ht⟩ := hiP_dvd p m
    refine ⟨t + p m * 2 ^ (5 * m), ?_⟩
    unfold hiP
    rw [ht, Nat.pow_add, Nat.mul_add, Nat.mul_left_comm]
theorem hiP_congr {p q : Nat → Nat} : ∀ (m : Nat), (∀ k, k < m → p k = q k) → hiP p m = hiP q m
  | 0, _ => rfl
  | m + 1, h => by
    unfold hiP
    rw [hiP_congr m (fun k hk => h k (by omega)), h m (by omega)]
theorem enc_congr {p q : Nat → Nat} {r m : Nat} (h : ∀ k, k < m → p k = q k) : enc r p m = enc r q m := by
  unfold enc
  rw [hiP_congr m h]
theorem enc_r {r m : Nat} {p : Nat → Nat} (hr : r < 32) : enc r p m % 32 = r := by
  obtain ⟨t, ht⟩ := hiP_dvd p m
  unfold enc
  omega
theorem enc_m {r m : Nat} {p : Nat → Nat} (hr : r < 32) (hm : m ≤ 10) : enc r p m / 32 % 16 = m := by
  obtain ⟨t, ht⟩ := hiP_dvd p m
  unfold enc
  omega
theorem enc_lt {r m : Nat} {p : Nat → Nat} (hr : r < 32) (hm : m ≤ 10) (hp : ∀ k, k < m → p k < 32) : enc r p m + 32 < 2 ^ (9 + 5 * m) := by
  have := hiP_lt m hp
  unfold enc
  omega
theorem pw59 {m : Nat} (hm : m ≤ 10) : 2 ^ (9 + 5 * m) ≤ 2 ^ 59 := Nat.pow_le_pow_right (by decide) (by omega)
theorem enc_lt59 {r m : Nat} {p : Nat → Nat} (hr : r < 32) (hm : m ≤ 10) (hp : ∀ k, k < m → p k < 32) : enc r p m < 2 ^ 59 := by
  have h1 := enc_lt hr hm hp
  have h2 := pw59 hm
  omega
theorem hiP_split {p : Nat → Nat} {k : Nat} : ∀ (m : Nat), k < m → ∃ t, hiP p m = hiP p k + p k * 2 ^ (9 + 5 * k) + 2 ^ (9 + 5 * (k + 1)) * t
  | 0, h => absurd h (Nat.not_lt_zero k)
  | m + 1, h => by
    rcases Nat.lt_or_ge k m with q | q
    · obtain ⟨t, ht⟩ := hiP_split m q
      refine ⟨t + p m * 2 ^ (5 * (m - (k + 1))), ?_⟩
      have e : 2 ^ (9 + 5 * m) = 2 ^ (9 + 5 * (k + 1)) * 2 ^ (5 * (m - (k + 1))) := by
        rw [← Nat.pow_add]
        congr 1
        omega
      rw [show hiP p (m + 1) = hiP p m + p m * 2 ^ (9 + 5 * m) from rfl, ht, e]
      generalize 2 ^ (9 + 5 * (k + 1)) = Y
      generalize 2 ^ (5 * (m - (k + 1))) = Z
      rw [Nat.mul_add, Nat.mul_left_comm (p m), Nat.add_assoc]
    · refine ⟨0, ?_⟩
      rw [show k = m by omega]
      rfl
theorem enc_p {r m k : Nat} {p : Nat → Nat} (hr : r < 32) (hm : m ≤ 10) (hp : ∀ k, k < m → p k < 32) (hk : k < m) : enc r p m / 2 ^ (9 + 5 * k) % 32 = p k := by
  obtain ⟨t, ht⟩ := hiP_split (p := p) m hk
  have h1 := hiP_lt k (fun j hj => hp j (by omega))
  have e : enc r p m = (r + 32 * m + hiP p k) + 2 ^ (9 + 5 * k) * (p k + 32 * t) := by
    unfold enc
    rw [ht, pw5, Nat.mul_add, Nat.mul_comm (p k), Nat.mul_assoc 32, Nat.mul_left_comm 32]
    omega
  have h2 : r + 32 * m + hiP p k < 2 ^ (9 + 5 * k) := by omega
  rw [e, Nat.add_mul_div_left _ _ (Nat.two_pow_pos _), Nat.div_eq_of_lt h2]
  have := hp k hk
  omega
theorem enc_inj {r m r' m' : Nat} {p p' : Nat → Nat} (hr : r < 32) (hm : m ≤ 10) (hp : ∀ k, k < m → p k < 32) (hr' : r' < 32) (hm' : m' ≤ 10) (hp' : ∀ k, k < m' → p' k < 32) : enc r p m = enc r' p' m' ↔ r = r' ∧ m = m' ∧ ∀ k, k < m → p k = p' k := by
  constructor
  · intro h
    have h1 : r = r' := by rw [← enc_r (p := p) (m := m) hr, h, enc_r hr']
    have h2 : m = m' := by rw [← enc_m (p := p) hr hm, h, enc_m hr' hm']
    subst h2
    exact ⟨h1, rfl, fun k hk => by rw [← enc_p hr hm hp hk, h, enc_p hr' hm hp' hk]⟩
  · rintro ⟨rfl, rfl, h⟩
    exact enc_congr h
/-- the first number in a row of n from i on -/
def fnd (P : Nat → Bool) : Nat → Nat → Option Nat
  | 0, _ => none
  | n + 1, i => if P i = true then some i else fnd P n (i + 1)
theorem fnd_congr {P Q : Nat → Bool} : ∀ (n i : Nat), (∀ k, i ≤ k → k < i + n → P k = Q k) → fnd P n i = fnd Q n i
  | 0, _, _ => rfl
  | n + 1, i, h => by
    unfold fnd
    rw [h i (Nat.le_refl i) (by omega), fnd_congr n (i + 1) (fun k h1 h2 => h k (by omega) (by omega))]
theorem fnd_lt {P : Nat → Bool} : ∀ (n i z : Nat), fnd P n i = some z → z < i + n
  | 0, _, _, h => by cases h
  | n + 1, i, z, h => by
    unfold fnd at h
    by_cases c : P i = true
    · rw [if_pos c] at h
      cases h
      omega
    · rw [if_neg c] at h
      have := fnd_lt n (i + 1) z h
      omega
def nbR (o : Option Nat) (nt : Nat) : Int32 := match o with
  | some i => nI i
  | none => if nt = 300 then -1 else nI nt
def nbN (o : Option Nat) (nt : Nat) : Nat := match o with
  | some _ => nt
  | none => if nt = 300 then nt else nt + 1
def nbV {α : Type} (o : Option Nat) (nt : Nat) (old new : α) : α := match o with
  | some _ => old
  | none => if nt = 300 then old else new
