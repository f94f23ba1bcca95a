/-! the class's list has the reference's sets -/
section
theorem fe_bit {n M : Nat} (i : Nat) : (dif (2 ^ n - 1) M).testBit i = (decide (i < n) && !M.testBit i) := by rw [dif_bit, Nat.testBit_two_pow_sub_one]
theorem pcn_zero (m : Nat) : pcn m 0 = 0 := by
  induction m with
  | zero => rfl
  | succ m ih => rw [pcn, ih]; simp
theorem or_parts {M : Nat} {s : Nat} : (s &&& M) ||| dif s M = s := by
  apply Nat.eq_of_testBit_eq
  intro i
  rw [Nat.testBit_or, Nat.testBit_and, dif_bit]
  cases s.testBit i <;> cases M.testBit i <;> rfl
theorem or_and {n M : Nat} {x y : Nat} (hx : x &&& M = x) (hy : y &&& dif (2 ^ n - 1) M = y) : (x ||| y) &&& M = x := by
  apply Nat.eq_of_testBit_eq
  intro i
  have e1 := congrArg (fun z => z.testBit i) hx
  have e2 := congrArg (fun z => z.testBit i) hy
  simp only [Nat.testBit_and, dif_bit] at e1 e2
  rw [Nat.testBit_and, Nat.testBit_or]
  cases a1 : x.testBit i <;> cases a2 : y.testBit i <;> cases a3 : M.testBit i <;> rw [a1, a3] at e1 <;> rw [a2, a3] at e2 <;> simp at e1 e2 ⊢
theorem or_dif {n M : Nat} {x y : Nat} (hx : x &&& M = x) (hy : y &&& dif (2 ^ n - 1) M = y) : dif (x ||| y) M = y := by
  apply Nat.eq_of_testBit_eq
  intro i
  have e1 := congrArg (fun z => z.testBit i) hx
  have e2 := congrArg (fun z => z.testBit i) hy
  simp only [Nat.testBit_and, dif_bit] at e1 e2
  rw [dif_bit, Nat.testBit_or]
  cases a1 : x.testBit i <;> cases a2 : y.testBit i <;> cases a3 : M.testBit i <;> rw [a1, a3] at e1 <;> rw [a2, a3] at e2 <;> simp at e1 e2 ⊢
theorem fe_lt {n M : Nat} : dif (2 ^ n - 1) M < 2 ^ n := tb_small (fun i hi => by rw [fe_bit, decide_eq_false (by omega)]; rfl)
theorem lw_mem {n M : Nat} (hn : n ≤ 12) {mo lim : Int32} {fm kn br ls : Nat → Int32} {k : Nat} {pm s : Nat} : s ∈ lwM M fm kn br ls lim mo n k pm (dif (2 ^ n - 1) M) 4096 (dif (2 ^ n - 1) M) ↔ ∃ x, 0 < x ∧ x &&& dif (2 ^ n - 1) M = x ∧ pcn 12 x = k ∧ s = pm ||| x ∧ okS M fm kn br ls lim mo n k s = true := by
  have h12 : 2 ^ n ≤ 2 ^ 12 := Nat.pow_le_pow_right (by decide) hn
  have hf : dif (2 ^ n - 1) M < 2 ^ n := fe_lt
  unfold lwM
  rw [List.mem_filter, List.mem_map]
  constructor
  · rintro ⟨⟨x, hx, rfl⟩, hok⟩
    rw [List.mem_filter, dsb_mem (n := n) 4096 _ (by omega) hf (Nat.and_self _)] at hx
    exact ⟨x, hx.1.1, hx.1.2.2, by simpa using hx.2, rfl, hok⟩
  · rintro ⟨x, h1, h2, h3, rfl, hok⟩
    refine ⟨⟨x, ?_, rfl⟩, hok⟩
    rw [List.mem_filter, dsb_mem (n := n) 4096 _ (by omega) hf (Nat.and_self _)]
    refine ⟨⟨h1, ?_, h2⟩, by simpa using h3⟩
    rw [← h2]
    exact Nat.and_le_right
theorem la_mem {n M : Nat} (hn : n ≤ 12) (hMn : M < 2 ^ n) {mo lim : Int32} {fm kn br ls : Nat → Int32} {k : Nat} (hk0 : 0 < k) {s : Nat} : s ∈ laM M fm kn br ls lim mo n k 4096 M ↔ s < 2 ^ n ∧ mayS M fm kn br ls lim mo n k s = true := by
  have h12 : 2 ^ n ≤ 2 ^ 12 := Nat.pow_le_pow_right (by decide) hn
  unfold laM
  rw [List.mem_flatMap]
  constructor
  · rintro ⟨pm, hpm, hs⟩
    rw [List.mem_filter, dsb_mem (n := n) 4096 _ (by omega) hMn (Nat.and_self _)] at hpm
    obtain ⟨⟨p1, p2, p3⟩, p4⟩ := hpm
    obtain ⟨x, x1, x2, x3, rfl, x5⟩ := (lw_mem hn).1 hs
    have e1 := or_and (n := n) p3 x2
    have e2 := or_dif (n := n) p3 x2
    have hx : x < 2 ^ n := by
      have : x ≤ dif (2 ^ n - 1) M := by rw [← x2]; exact Nat.and_le_right
      have hf : dif (2 ^ n - 1) M < 2 ^ n := fe_lt
      omega
    have p4' : pcn 12 pm = k := by simpa using p4
    rw [pcn_12 (n := n) (by omega) hn] at p4'
    rw [pcn_12 hx hn] at x3
    refine ⟨Nat.or_lt_two_pow (by omega) hx, ?_⟩
    unfold okS at x5
    unfold mayS
    rw [e1, e2] at x5 ⊢
    rw [p4', x3, Bool.and_assoc, x5]
    simp
  · rintro ⟨h1, h2⟩
    unfold mayS at h2
    simp only [Bool.and_eq_true, decide_eq_true_eq] at h2
    obtain ⟨⟨⟨m1, m2⟩, m3⟩, m4⟩ := h2
    have ha : s &&& M < 2 ^ n := and_lt h1
    have hd : dif s M < 2 ^ n := dif_lt h1
    have hpos : ∀ x, pcn n x = k → 0 < x := fun x hx => by
      rcases Nat.eq_zero_or_pos x with e | e
      · rw [e, pcn_zero] at hx; omega
      · exact e
    refine ⟨s &&& M, ?_, (lw_mem hn).2 ⟨dif s M, hpos _ m2, ?_, ?_, or_parts.symm, ?_⟩⟩
    · rw [List.mem_filter, dsb_mem (n := n) 4096 _ (by omega) hMn (Nat.and_self _)]
      refine ⟨⟨hpos _ m1, Nat.and_le_right, sub_and _ _⟩, ?_⟩
      rw [pcn_12 ha hn, m1]
      simp
    · apply Nat.eq_of_testBit_eq
      intro i
      rw [Nat.testBit_and, fe_bit, dif_bit]
      rcases Nat.lt_or_ge i n with q | q
      · rw [decide_eq_true q]
        cases s.testBit i <;> cases M.testBit i <;> rfl
      · rw [tb_lt h1 q]
        rfl
    · rw [pcn_12 hd hn, m2]
    · unfold okS
      rw [m3, m4]
      rfl
theorem la_nodup {n M : Nat} (hn : n ≤ 12) (hMn : M < 2 ^ n) {mo lim : Int32} {fm kn br ls : Nat → Int32} {k : Nat} (hk0 : 0 < k) : (laM M fm kn br ls lim mo n k 4096 M).Nodup := by
  have h12 : 2 ^ n ≤ 2 ^ 12 := Nat.pow_le_pow_right (by decide) hn
  have hf : dif (2 ^ n - 1) M < 2 ^ n := fe_lt
  unfold laM
  unfold List.Nodup
  rw [List.pairwise_flatMap]
  have hD : (dsb M 4096 M).Nodup := dsb_nodup (n := n) 4096 M (by omega) hMn (Nat.and_self _)
  have hDm : ∀ a, a ∈ (dsb M 4096 M).filter (fun x => decide (pcn 12 x = k)) → a &&& M = a := fun a h => by
    rw [List.mem_filter, dsb_mem (n := n) 4096 _ (by omega) hMn (Nat.and_self _)] at h
    exact h.1.2.2
  refine ⟨fun pm hpm => ?_, ?_⟩
  · have hpm' := hDm pm hpm
    unfold lwM
    refine List.Pairwise.sublist List.filter_sublist ?_
    rw [List.pairwise_map]
    have hE : (dsb (dif (2 ^ n - 1) M) 4096 (dif (2 ^ n - 1) M)).Nodup := dsb_nodup (n := n) 4096 _ (by omega) hf (Nat.and_self _)
    have hE2 := List.Nodup.sublist (List.filter_sublist (p := fun x => decide (pcn 12 x = k))) hE
    refine List.Pairwise.imp_of_mem (fun {a b} ha hb hne he => hne ?_) hE2
    rw [List.mem_filter, dsb_mem (n := n) 4096 _ (by omega) hf (Nat.and_self _)] at ha hb
    have := congrArg (fun z => dif z M) he
    rw [or_dif (n := n) hpm' ha.1.2.2, or_dif (n := n) hpm' hb.1.2.2] at this
    exact this
  · have hD2 := List.Nodup.sublist (List.filter_sublist (p := fun x => decide (pcn 12 x = k))) hD
    refine List.Pairwise.imp_of_mem (fun {a b} ha hb hne x hx y hy he => hne ?_) hD2
    obtain ⟨u, _, u2, _, rfl, _⟩ := (lw_mem hn).1 hx
    obtain ⟨v, _, v2, _, rfl, _⟩ := (lw_mem hn).1 hy
    have := congrArg (fun z => z &&& M) he
    rw [or_and (n := n) (hDm a ha) u2, or_and (n := n) (hDm b hb) v2] at this
    exact this
theorem la_len {n M : Nat} (hn : n ≤ 12) (hMn : M < 2 ^ n) {mo lim : Int32} {fm kn br ls : Nat → Int32} {k : Nat} (hk : k ≤ 6) (hk0 : 0 < k) : (laM M fm kn br ls lim mo n k 4096 M).length ≤ 400 := by
  refine Nat.le_trans (List.Nodup.length_le_of_subset (la_nodup hn hMn hk0) (l₂ := (List.range (2 ^ n)).filter (fun s => decide (pcn n (s &&& M) = k) && decide (pcn n (dif s M) = k))) (fun s hs => ?_)) (cntS_le (M := M) hn hk hk0)
  obtain ⟨h1, h2⟩ := (la_mem hn hMn hk0).1 hs
  rw [List.mem_filter, List.mem_range]
  refine ⟨h1, ?_⟩
  unfold mayS at h2
  simp only [Bool.and_eq_true] at h2 ⊢
  exact h2.1.1
theorem ls_mem {n M : Nat} {mo lim : Int32} {fm kn br ls : Nat → Int32} {k : Nat} {A s : Nat} : s ∈ lsS M fm kn br ls lim mo n k A (2 ^ n) ↔ s < 2 ^ n ∧ dif s A = 0 ∧ mayS M fm kn br ls lim mo n k s = true := by
  unfold lsS
  rw [List.mem_filter, List.mem_range]
  simp
theorem ls_nodup {n M : Nat} {mo lim : Int32} {fm kn br ls : Nat → Int32} {k : Nat} {A : Nat} : (lsS M fm kn br ls lim mo n k A (2 ^ n)).Nodup := List.Nodup.sublist List.filter_sublist List.nodup_range
theorem la_ls {n M : Nat} (hn : n ≤ 12) (hMn : M < 2 ^ n) {mo lim : Int32} {fm kn br ls : Nat → Int32} {k : Nat} (hk0 : 0 < k) {s A : Nat} : s ∈ (laM M fm kn br ls lim mo n k 4096 M).filter (fun s => decide (dif s A = 0)) ↔ s ∈ lsS M fm kn br ls lim mo n k A (2 ^ n) := by
  rw [List.mem_filter, la_mem hn hMn hk0, ls_mem]
  simp
  exact ⟨fun ⟨⟨a, b⟩, c⟩ => ⟨a, c, b⟩, fun ⟨a, c, b⟩ => ⟨⟨a, b⟩, c⟩⟩
theorem dif_all {n : Nat} {s : Nat} (h : s < 2 ^ n) : dif s (2 ^ n - 1) = 0 := by
  apply Nat.eq_of_testBit_eq
  intro i
  rw [dif_bit, Nat.testBit_two_pow_sub_one, Nat.zero_testBit]
  rcases Nat.lt_or_ge i n with q | q
  · rw [decide_eq_true q]; simp
  · rw [tb_lt h q]; rfl
theorem la_ls_all {n M : Nat} (hn : n ≤ 12) (hMn : M < 2 ^ n) {mo lim : Int32} {fm kn br ls : Nat → Int32} {k : Nat} (hk0 : 0 < k) {s : Nat} : s ∈ laM M fm kn br ls lim mo n k 4096 M ↔ s ∈ lsS M fm kn br ls lim mo n k (2 ^ n - 1) (2 ^ n) := by
  rw [la_mem hn hMn hk0, ls_mem]
  exact ⟨fun ⟨a, b⟩ => ⟨a, dif_all a, b⟩, fun ⟨a, _, b⟩ => ⟨a, b⟩⟩
theorem la_ls_len {n M : Nat} (hn : n ≤ 12) (hMn : M < 2 ^ n) {mo lim : Int32} {fm kn br ls : Nat → Int32} {k : Nat} (hk0 : 0 < k) : (laM M fm kn br ls lim mo n k 4096 M).length = (lsS M fm kn br ls lim mo n k (2 ^ n - 1) (2 ^ n)).length := by
  apply Nat.le_antisymm
  · exact List.Nodup.length_le_of_subset (la_nodup hn hMn hk0) (fun s h => (la_ls_all hn hMn hk0).1 h)
  · exact List.Nodup.length_le_of_subset ls_nodup (fun s h => (la_ls_all hn hMn hk0).2 h)
end
