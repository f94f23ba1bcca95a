/-! masks: Int32 masks as numbers -/
theorem s_l : ∀ n, n < 32 → ((nI n &&& 31).toBitVec.smod 32).toNat = n := by decide +kernel
theorem mk_and (a b : Nat) : nI a &&& nI b = nI (a &&& b) := by
  apply Int32.toBitVec_inj.1
  show BitVec.ofNat 32 a &&& BitVec.ofNat 32 b = BitVec.ofNat 32 (a &&& b)
  apply BitVec.eq_of_getLsbD_eq
  intro i hi
  simp [hi]
theorem mk_or (a b : Nat) : nI a ||| nI b = nI (a ||| b) := by
  apply Int32.toBitVec_inj.1
  show BitVec.ofNat 32 a ||| BitVec.ofNat 32 b = BitVec.ofNat 32 (a ||| b)
  apply BitVec.eq_of_getLsbD_eq
  intro i hi
  simp [hi]
theorem mk_xor (a b : Nat) : nI a ^^^ nI b = nI (a ^^^ b) := by
  apply Int32.toBitVec_inj.1
  show BitVec.ofNat 32 a ^^^ BitVec.ofNat 32 b = BitVec.ofNat 32 (a ^^^ b)
  apply BitVec.eq_of_getLsbD_eq
  intro i hi
  simp [hi]
/-- a without the bits of b -/
def dif (a b : Nat) : Nat := a ^^^ (a &&& b)
theorem dif_bit (a b i : Nat) : (dif a b).testBit i = (a.testBit i && !b.testBit i) := by
  unfold dif
  rw [Nat.testBit_xor, Nat.testBit_and]
  cases a.testBit i <;> cases b.testBit i <;> rfl
theorem mk_m1 : (-1 : Int32).toBitVec = BitVec.allOnes 32 := by decide +kernel
theorem mk_andn (a b : Nat) : nI a &&& (nI b ^^^ (-1)) = nI (dif a b) := by
  apply Int32.toBitVec_inj.1
  rw [Int32.toBitVec_and, Int32.toBitVec_xor, mk_m1]
  show BitVec.ofNat 32 a &&& (BitVec.ofNat 32 b ^^^ BitVec.allOnes 32) = BitVec.ofNat 32 (dif a b)
  apply BitVec.eq_of_getLsbD_eq
  intro i hi
  rw [BitVec.getLsbD_and, BitVec.getLsbD_xor, BitVec.getLsbD_ofNat, BitVec.getLsbD_ofNat, BitVec.getLsbD_ofNat, BitVec.getLsbD_allOnes, dif_bit, decide_eq_true hi]
  cases a.testBit i <;> cases b.testBit i <;> rfl
theorem mk_has {s a : Nat} (hs : s < 2 ^ 31) (ha : a < 32) : ((nI s >>> (nI a &&& 31)) &&& 1) = if s.testBit a then 1 else 0 := by
  rw [pk_shrN hs (nI a &&& 31) a (s_l a ha)]
  have hd := Nat.div_le_self s (2 ^ a)
  rw [pk_andN (n := s / 2 ^ a) (by omega) (m := 1) 1 (by decide), Nat.testBit_eq_decide_div_mod_eq]
  have h2 : s / 2 ^ a % 2 = 0 ∨ s / 2 ^ a % 2 = 1 := by omega
  rcases h2 with h | h
  · simp [h]; rfl
  · simp [h]; rfl
theorem mk_bit {a : Nat} (ha : a < 31) : (1 : Int32) <<< (nI a &&& 31) = nI (2 ^ a) := by
  have h2 : 2 ^ a < 2 ^ 31 := Nat.pow_lt_pow_right (by decide) ha
  have h := pk_shlN (n := 1) (nI a &&& 31) a (s_l a (by omega)) (by omega)
  rw [Nat.one_mul] at h
  exact h
theorem mk_z {s : Nat} (hs : s < 2 ^ 31) : nI s = 0 ↔ s = 0 := by
  rw [← nI_0, nI_eq hs (by decide)]
/-- how many bits of x below m are set -/
def pcn : Nat → Nat → Nat
  | 0, _ => 0
  | m + 1, x => pcn m x + (if x.testBit m then 1 else 0)
theorem pcn_le (m x : Nat) : pcn m x ≤ m := by
  induction m with
  | zero => exact Nat.le_refl _
  | succ m ih =>
    rw [pcn]
    split <;> omega
theorem pcn_congr {m x y : Nat} (h : ∀ i, i < m → x.testBit i = y.testBit i) : pcn m x = pcn m y := by
  induction m with
  | zero => rfl
  | succ m ih => rw [pcn, pcn, ih (fun i hi => h i (by omega)), h m (by omega)]
theorem pcn_more {m k x : Nat} (h : ∀ i, m ≤ i → i < m + k → x.testBit i = false) : pcn (m + k) x = pcn m x := by
  induction k with
  | zero => rfl
  | succ k ih => rw [← Nat.add_assoc, pcn, ih (fun i h1 h2 => h i h1 (by omega)), h (m + k) (by omega) (by omega)]; rfl
/-- the numbers below 2^n by their bits -/
theorem tb_lt {x n i : Nat} (h : x < 2 ^ n) (hi : n ≤ i) : x.testBit i = false := Nat.testBit_lt_two_pow (Nat.lt_of_lt_of_le h (Nat.pow_le_pow_right (by decide) hi))
theorem tb_small {x n : Nat} (h : ∀ i, n ≤ i → x.testBit i = false) : x < 2 ^ n := by
  rcases Nat.lt_or_ge x (2 ^ n) with h1 | h1
  · exact h1
  · obtain ⟨i, hi, ht⟩ := Nat.exists_ge_and_testBit_of_ge_two_pow h1
    rw [h i hi] at ht
    cases ht
theorem tb_pow (a i : Nat) : (2 ^ a).testBit i = decide (a = i) := Nat.testBit_two_pow
