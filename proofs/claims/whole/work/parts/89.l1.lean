/-! all submasks, downwards; how many sets there are at most -/
def dsb (m : Nat) : Nat → Nat → List Nat
  | 0, _ => []
  | q + 1, p => if p = 0 then [] else p :: dsb m q ((p - 1) &&& m)
/-- the next submask downwards leaves none out -/
theorem sub_next : ∀ (n m p x : Nat), p < 2 ^ n → p &&& m = p → x &&& m = x → x < p → x ≤ (p - 1) &&& m := by
  intro n
  induction n with
  | zero => intro m p x hp _ _ hx; omega
  | succ n ih =>
    intro m p x hp hpm hxm hx
    have hp2 : p / 2 &&& m / 2 = p / 2 := by rw [← Nat.and_div_two, hpm]
    have hx2 : x / 2 &&& m / 2 = x / 2 := by rw [← Nat.and_div_two, hxm]
    have hb : ∀ y, y &&& m = y → y % 2 = 1 → m % 2 = 1 := by
      intro y hy h1
      have h2 : (y &&& m) % 2 = 1 := by rw [hy]; exact h1
      rw [Nat.and_mod_two_eq_one] at h2
      exact h2.2
    have hq : ((p - 1) &&& m) / 2 = (p - 1) / 2 &&& m / 2 := Nat.and_div_two
    by_cases h1 : p % 2 = 1
    · have e : (p - 1) / 2 = p / 2 := by omega
      rw [e, hp2] at hq
      omega
    · have e : (p - 1) / 2 = p / 2 - 1 := by omega
      have hlt : x / 2 < p / 2 := by omega
      have ih' := ih (m / 2) (p / 2) (x / 2) (by rw [Nat.pow_succ] at hp; omega) hp2 hx2 hlt
      rw [e] at hq
      rw [← hq] at ih'
      by_cases h2 : x % 2 = 1
      · have hm1 := hb x hxm h2
        have h3 : ((p - 1) &&& m) % 2 = 1 := by
          rw [Nat.and_mod_two_eq_one]
          exact ⟨by omega, hm1⟩
        omega
      · omega
theorem and_le' (a b : Nat) : a &&& b ≤ a := Nat.and_le_left
theorem sub_and (a m : Nat) : (a &&& m) &&& m = a &&& m := by rw [Nat.and_assoc, Nat.and_self]
theorem dsb_mem {m n : Nat} : ∀ (q p : Nat), p < q → p < 2 ^ n → p &&& m = p → ∀ x, x ∈ dsb m q p ↔ 0 < x ∧ x ≤ p ∧ x &&& m = x := by
  intro q
  induction q with
  | zero => intro p h; omega
  | succ q ih =>
    intro p hq hp hpm x
    rw [dsb]
    by_cases h0 : p = 0
    · rw [if_pos h0]
      constructor
      · intro h; cases h
      · rintro ⟨h1, h2, _⟩; omega
    · rw [if_neg h0, List.mem_cons]
      have hle := and_le' (p - 1) m
      rw [ih ((p - 1) &&& m) (by omega) (by omega) (sub_and _ _)]
      constructor
      · rintro (rfl | ⟨h1, h2, h3⟩)
        · exact ⟨by omega, Nat.le_refl _, hpm⟩
        · exact ⟨h1, by omega, h3⟩
      · rintro ⟨h1, h2, h3⟩
        rcases Nat.lt_or_ge x p with h | h
        · exact Or.inr ⟨h1, sub_next n m p x hp hpm h3 h, h3⟩
        · exact Or.inl (by omega)
theorem dsb_nodup {m n : Nat} : ∀ (q p : Nat), p < q → p < 2 ^ n → p &&& m = p → (dsb m q p).Nodup := by
  intro q
  induction q with
  | zero => intro p h; omega
  | succ q ih =>
    intro p hq hp hpm
    rw [dsb]
    by_cases h0 : p = 0
    · rw [if_pos h0]
      exact List.nodup_nil
    · rw [if_neg h0]
      have hle := and_le' (p - 1) m
      refine List.nodup_cons.2 ⟨fun h => ?_, ih _ (by omega) (by omega) (sub_and _ _)⟩
      have := (dsb_mem (n := n) q _ (by omega) (by omega) (sub_and _ _) p).1 h
      omega
/-- Pascal's numbers -/
def chP : Nat → Nat → Nat
  | _, 0 => 1
  | 0, _ + 1 => 0
  | m + 1, i + 1 => chP m i + chP m (i + 1)
set_option maxRecDepth 100000 in
theorem chP_le : ∀ n, n ≤ 12 → ∀ m, m ≤ n → ∀ k, k ≤ 6 → 0 < k → chP m k * chP (n - m) k ≤ 400 := by decide +kernel
def cntS (M : Nat) (n i j : Nat) : Nat := ((List.range (2 ^ n)).filter (fun s => decide (pcn n (s &&& M) = i) && decide (pcn n (dif s M) = j))).length
theorem cntS_eq (M : Nat) : ∀ n i j, cntS M n i j = chP (pcn n M) i * chP (n - pcn n M) j := by
  intro n
  induction n with
  | zero =>
    intro i j
    cases i <;> cases j <;> simp [cntS, pcn, chP, List.range_succ]
  | succ n ih =>
    intro i j
    have hlow : ∀ t, t < 2 ^ n → pcn (n + 1) (t &&& M) = pcn n (t &&& M) ∧ pcn (n + 1) (dif t M) = pcn n (dif t M) := by
      intro t ht
      have hb := tb_lt ht (Nat.le_refl n)
      constructor
      · rw [pcn, Nat.testBit_and, hb]; rfl
      · rw [pcn, dif_bit, hb]; rfl
    have hhi : ∀ t, t < 2 ^ n → pcn (n + 1) ((2 ^ n + t) &&& M) = pcn n (t &&& M) + (if M.testBit n = true then 1 else 0) ∧ pcn (n + 1) (dif (2 ^ n + t) M) = pcn n (dif t M) + (if M.testBit n = true then 0 else 1) := by
      intro t ht
      have hb : (2 ^ n + t).testBit n = true := by
        rw [Nat.testBit_two_pow_add_eq, tb_lt ht (Nat.le_refl n)]
        rfl
      have hb2 : ∀ i, i < n → (2 ^ n + t).testBit i = t.testBit i := fun i hi => Nat.testBit_two_pow_add_gt hi t
      constructor
      · rw [pcn, Nat.testBit_and, hb, Bool.true_and]
        congr 1
        exact pcn_congr (fun i hi => by rw [Nat.testBit_and, Nat.testBit_and, hb2 i hi])
      · rw [pcn, dif_bit, hb, Bool.true_and]
        have e : pcn n (dif (2 ^ n + t) M) = pcn n (dif t M) := pcn_congr (fun i hi => by rw [dif_bit, dif_bit, hb2 i hi])
        rw [e]
        cases M.testBit n <;> rfl
    have hsplit : cntS M (n + 1) i j = cntS M n i j + ((List.range (2 ^ n)).filter (fun t => decide (pcn n (t &&& M) + (if M.testBit n = true then 1 else 0) = i) && decide (pcn n (dif t M) + (if M.testBit n = true then 0 else 1) = j))).length := by
      unfold cntS
      rw [show 2 ^ (n + 1) = 2 ^ n + 2 ^ n by rw [Nat.pow_succ]; omega, List.range_add, List.filter_append, List.length_append, List.filter_map, List.length_map]
      congr 1
      · congr 1
        apply List.filter_congr
        intro t ht
        rw [List.mem_range] at ht
        rw [(hlow t ht).1, (hlow t ht).2]
      · congr 1
        apply List.filter_congr
        intro t ht
        rw [List.mem_range] at ht
        show (decide (pcn (n + 1) ((2 ^ n + t) &&& M) = i) && decide (pcn (n + 1) (dif (2 ^ n + t) M) = j)) = _
        rw [(hhi t ht).1, (hhi t ht).2]
    have hle := pcn_le n M
    rw [hsplit, pcn]
    cases hb : M.testBit n
    · -- a female
      simp only [Bool.false_eq_true, if_false, Nat.add_zero]
      rw [show n + 1 - pcn n M = (n - pcn n M) + 1 by omega]
      cases j with
      | zero =>
        have e : (List.filter (fun t => decide (pcn n (t &&& M) = i) && decide (pcn n (dif t M) + 1 = 0)) (List.range (2 ^ n))) = [] := by
          apply List.filter_eq_nil_iff.2
          intro a _
          simp
        rw [e, ih]
        simp [chP]
      | succ j =>
        have e : (List.filter (fun t => decide (pcn n (t &&& M) = i) && decide (pcn n (dif t M) + 1 = j + 1)) (List.range (2 ^ n))).length = cntS M n i j := by
          unfold cntS
          congr 1
          apply List.filter_congr
          intro t _
          congr 1
          simp
        rw [e, ih, ih, chP, Nat.mul_add]
        omega
    · simp only [if_true, Nat.add_zero]
      rw [show n + 1 - (pcn n M + 1) = n - pcn n M by omega]
      cases i with
      | zero =>
        have e : (List.filter (fun t => decide (pcn n (t &&& M) + 1 = 0) && decide (pcn n (dif t M) = j)) (List.range (2 ^ n))) = [] := by
          apply List.filter_eq_nil_iff.2
          intro a _
          simp
        rw [e, ih]
        simp [chP]
      | succ i =>
        have e : (List.filter (fun t => decide (pcn n (t &&& M) + 1 = i + 1) && decide (pcn n (dif t M) = j)) (List.range (2 ^ n))).length = cntS M n i j := by
          unfold cntS
          congr 1
          apply List.filter_congr
          intro t _
          congr 1
          simp
        rw [e, ih, ih, chP, Nat.add_mul]
        omega
theorem cntS_le {M n k : Nat} (hn : n ≤ 12) (hk : k ≤ 6) (hk0 : 0 < k) : cntS M n k k ≤ 400 := by
  rw [cntS_eq]
  exact chP_le n hn (pcn n M) (pcn_le n M) k hk hk0
