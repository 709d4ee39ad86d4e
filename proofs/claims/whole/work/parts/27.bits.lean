/-! WORDS OF 16 BITS: what both sides ask of them, one way and the other -/
def W16 (x : Int32) : Prop := ∃ n, n < 65536 ∧ x = nI n
theorem nI_land (a b : Nat) : nI a &&& nI b = nI (a &&& b) := by
  apply Int32.toBitVec_inj.mp
  rw [Int32.toBitVec_and]
  exact (BitVec.ofNat_and).symm
theorem and_p2 (n k : Nat) : n &&& 2 ^ k = (n / 2 ^ k % 2) * 2 ^ k := by
  apply Nat.eq_of_testBit_eq
  intro i
  rw [Nat.testBit_and, Nat.testBit_two_pow, ← Nat.shiftLeft_eq, Nat.testBit_shiftLeft, show n / 2 ^ k % 2 = n / 2 ^ k % 2 ^ 1 from rfl, Nat.testBit_mod_two_pow, Nat.testBit_div_two_pow]
  by_cases c : k = i
  · subst c; simp
  · by_cases d : k ≤ i
    · have : ¬ (i - k < 1) := by omega
      simp [c, this]
    · simp [c, d]
theorem bit_0 {n k : Nat} (hk : k < 31) : (nI n &&& nI (2 ^ k) = 0) ↔ n / 2 ^ k % 2 = 0 := by
  have h2 : 2 ^ k < 2 ^ 31 := Nat.pow_lt_pow_right (by decide) hk
  rw [nI_land, show (0 : Int32) = nI 0 from rfl, nI_eq (Nat.lt_of_le_of_lt Nat.and_le_right h2) (by decide), and_p2, Nat.mul_eq_zero]
  have h3 : 0 < 2 ^ k := Nat.two_pow_pos k
  omega
theorem w_and (x : Int32) : W16 (x &&& 65535) := by
  obtain ⟨j, h, e⟩ := pk_andE x (m := 65535) 16 (by decide)
  exact ⟨j, h, e⟩
theorem W16.c {x : Int32} (h : W16 x) : x &&& 65535 = x := by
  obtain ⟨n, hn, rfl⟩ := h
  rw [pk_andN (by omega) 16 (by decide), Nat.mod_eq_of_lt hn]
theorem W16.m {x a b : Int32} (h : W16 x) (e : (65535 : Int32) &&& a = 65535 &&& b) : x &&& a = x &&& b := by
  rw [← h.c, Int32.and_assoc, Int32.and_assoc, e]
theorem W16.user {x : Int32} (h : W16 x) : (x &&& 32768 = 0) ↔ x < 32768 := by
  obtain ⟨n, hn, rfl⟩ := h
  rw [show (32768 : Int32) = nI (2 ^ 15) from rfl, bit_0 (by decide), nI_ltI (by omega) (by decide)]
  omega
theorem bit_1 {n k : Nat} (hn : n < 2 ^ 31) (hk : k < 31) (s : Int32) (hs : (s.toBitVec.smod 32).toNat = k) : (nI n >>> s &&& 1 = 1) ↔ ¬ (nI n &&& nI (2 ^ k) = 0) := by
  rw [bit_0 hk, pk_shrN hn s k hs, pk_andN (Nat.lt_of_le_of_lt (Nat.div_le_self _ _) (by omega)) 1 (by decide), show (1 : Int32) = nI 1 from rfl, nI_eq (by omega) (by decide)]
  omega
theorem bit_1' {n k : Nat} (hn : n < 2 ^ 31) (hk : k < 31) (s : Int32) (hs : (s.toBitVec.smod 32).toNat = k) : (nI n >>> s &&& 1 = 0) ↔ (nI n &&& nI (2 ^ k) = 0) := by
  rw [bit_0 hk, pk_shrN hn s k hs, pk_andN (Nat.lt_of_le_of_lt (Nat.div_le_self _ _) (by omega)) 1 (by decide), show (0 : Int32) = nI 0 from rfl, nI_eq (by omega) (by decide)]
theorem W16.b5 {x : Int32} (h : W16 x) : (x >>> ((5 : Int32) &&& 31) &&& 1 = 1) ↔ ¬ (x &&& 32 = 0) := by
  obtain ⟨n, hn, rfl⟩ := h
  exact bit_1 (by omega) (k := 5) (by decide) _ (by decide)
theorem W16.b11 {x : Int32} (h : W16 x) : (x >>> ((11 : Int32) &&& 31) &&& 1 = 1) ↔ ¬ (x &&& 2048 = 0) := by
  obtain ⟨n, hn, rfl⟩ := h
  exact bit_1 (by omega) (k := 11) (by decide) _ (by decide)
theorem W16.b14 {x : Int32} (h : W16 x) : (x >>> ((14 : Int32) &&& 31) &&& 1 = 1) ↔ ¬ (x &&& 16384 = 0) := by
  obtain ⟨n, hn, rfl⟩ := h
  exact bit_1 (by omega) (k := 14) (by decide) _ (by decide)
theorem W16.b15 {x : Int32} (h : W16 x) : (x >>> ((15 : Int32) &&& 31) &&& 1 = 0) ↔ (x &&& 32768 = 0) := by
  obtain ⟨n, hn, rfl⟩ := h
  exact bit_1' (by omega) (k := 15) (by decide) _ (by decide)
theorem W16.v14 {x : Int32} (h : W16 x) : x &&& 16384 = 0 ∨ x &&& 16384 = 16384 := by
  obtain ⟨n, hn, rfl⟩ := h
  rw [show (16384 : Int32) = nI (2 ^ 14) from rfl, nI_land, and_p2]
  rcases (show n / 2 ^ 14 % 2 = 0 ∨ n / 2 ^ 14 % 2 = 1 by omega) with e | e
  · left; rw [e]; rfl
  · right; rw [e]
theorem W16.pri {x : Int32} (h : W16 x) : (1024 ≤ x &&& 1792) ↔ (4 ≤ x >>> ((8 : Int32) &&& 31) &&& 7) := by
  obtain ⟨n, hn, rfl⟩ := h
  have e : n &&& 1792 = (n / 256 % 8) * 256 := by
    rw [show (1792 : Nat) = 7 <<< 8 from rfl, show (256 : Nat) = 2 ^ 8 from rfl, show (8 : Nat) = 2 ^ 3 from rfl, ← Nat.shiftLeft_eq]
    apply Nat.eq_of_testBit_eq
    intro i
    rw [Nat.testBit_and, Nat.testBit_shiftLeft, Nat.testBit_shiftLeft, Nat.testBit_mod_two_pow, Nat.testBit_div_two_pow, show (7 : Nat) = 2 ^ 3 - 1 from rfl, Nat.testBit_two_pow_sub_one]
    by_cases c : 2 ^ 3 ≤ i
    · have e1 : i - 2 ^ 3 + 2 ^ 3 = i := by omega
      rw [e1]; simp [c, Bool.and_comm]
    · simp [c]
  rw [show (1792 : Int32) = nI 1792 from rfl, nI_land, e, show (1024 : Int32) = nI 1024 from rfl, nI_leI (by decide) (by omega), pk_shrN (by omega) _ 8 (by decide), pk_andN (by omega) 3 (by decide), show (4 : Int32) = nI 4 from rfl, nI_leI (by decide) (by omega)]
  omega
def sgB (n : Int32) (b : Int32) : Bool := decide ((if b >>> (n - 1 &&& 31) = 1 then b - (1 : Int32) <<< (n &&& 31) else b) = (b ^^^ (1 : Int32) <<< (n - 1 &&& 31)) - (1 : Int32) <<< (n - 1 &&& 31))
theorem sgB5 : ∀ j, j < 32 → sgB 5 (nI j) = true := by decide +kernel
theorem sgB6 : ∀ j, j < 64 → sgB 6 (nI j) = true := by decide +kernel
theorem sgB9 : ∀ j, j < 512 → sgB 9 (nI j) = true := by decide +kernel
theorem sgB11 : ∀ j, j < 2048 → sgB 11 (nI j) = true := by decide +kernel
theorem sg5 (w : Int32) : sgM w 5 = sgS w 5 := by
  obtain ⟨j, hj, e⟩ := pk_andE w (m := (1 : Int32) <<< ((5 : Int32) &&& 31) - 1) 5 (by decide)
  unfold sgM sgS
  rw [show (2 * (1 : Int32) <<< ((5 : Int32) - 1 &&& 31) - 1) = (1 : Int32) <<< ((5 : Int32) &&& 31) - 1 from by decide, e]
  exact of_decide_eq_true (sgB5 j hj)
theorem sg6 (w : Int32) : sgM w 6 = sgS w 6 := by
  obtain ⟨j, hj, e⟩ := pk_andE w (m := (1 : Int32) <<< ((6 : Int32) &&& 31) - 1) 6 (by decide)
  unfold sgM sgS
  rw [show (2 * (1 : Int32) <<< ((6 : Int32) - 1 &&& 31) - 1) = (1 : Int32) <<< ((6 : Int32) &&& 31) - 1 from by decide, e]
  exact of_decide_eq_true (sgB6 j hj)
theorem sg9 (w : Int32) : sgM w 9 = sgS w 9 := by
  obtain ⟨j, hj, e⟩ := pk_andE w (m := (1 : Int32) <<< ((9 : Int32) &&& 31) - 1) 9 (by decide)
  unfold sgM sgS
  rw [show (2 * (1 : Int32) <<< ((9 : Int32) - 1 &&& 31) - 1) = (1 : Int32) <<< ((9 : Int32) &&& 31) - 1 from by decide, e]
  exact of_decide_eq_true (sgB9 j hj)
theorem sg11 (w : Int32) : sgM w 11 = sgS w 11 := by
  obtain ⟨j, hj, e⟩ := pk_andE w (m := (1 : Int32) <<< ((11 : Int32) &&& 31) - 1) 11 (by decide)
  unfold sgM sgS
  rw [show (2 * (1 : Int32) <<< ((11 : Int32) - 1 &&& 31) - 1) = (1 : Int32) <<< ((11 : Int32) &&& 31) - 1 from by decide, e]
  exact of_decide_eq_true (sgB11 j hj)
