/-! the reference's search -/
theorem bst_add (ws : Nat → Int32) (l : List Nat) (s : Nat) : bst ws (l ++ [s]) = bstep ws (bst ws l) s := by
  unfold bst
  rw [List.foldl_append]
  rfl
theorem bst_none {ws : Nat → Int32} {l : List Nat} : bst ws l = none ↔ l = [] := by
  constructor
  · intro h
    rcases List.eq_nil_or_concat l with e | ⟨m, x, e⟩
    · exact e
    · rw [List.concat_eq_append] at e
      rw [e, bst_add] at h
      unfold bstep at h
      split at h
      · cases h
      · split at h <;> cases h
  · intro h
    rw [h]
    rfl
theorem bl_getD_lt {x n j : Nat} (h : j < pcn n x) : (bl x n)[j]? = some ((bl x n).getD j 0) ∧ (bl x n).getD j 0 < n ∧ x.testBit ((bl x n).getD j 0) = true := by
  rw [← bl_len] at h
  have e : (bl x n)[j]? = some ((bl x n).getD j 0) := by
    rw [List.getElem?_eq_getElem h, List.getD_eq_getElem?_getD, List.getElem?_eq_getElem h]
    rfl
  have hm : (bl x n).getD j 0 ∈ bl x n := List.mem_of_getElem? e
  exact ⟨e, bl_mem.1 hm⟩
theorem bl_nodup (x n : Nat) : (bl x n).Nodup := List.Nodup.sublist List.filter_sublist List.nodup_range
theorem bl_inj {x n i j : Nat} (hi : i < pcn n x) (hj : j < pcn n x) (h : (bl x n).getD i 0 = (bl x n).getD j 0) : i = j := by
  have e1 := (bl_getD_lt hi).1
  have e2 := (bl_getD_lt hj).1
  rw [h, ← e2] at e1
  rw [← bl_len] at hi
  exact (List.getElem?_inj hi (bl_nodup x n)).1 e1
theorem bl_ex {x n a : Nat} (h : a < n) (hb : x.testBit a = true) : ∃ j, j < pcn n x ∧ (bl x n).getD j 0 = a := by
  have hm : a ∈ bl x n := bl_mem.2 ⟨h, hb⟩
  obtain ⟨j, hj⟩ := List.getElem?_of_mem hm
  have hl := (List.getElem?_eq_some_iff.mp hj).1
  rw [bl_len] at hl
  refine ⟨j, hl, ?_⟩
  rw [List.getD_eq_getElem?_getD, hj]
  rfl
theorem bl_map {x n k : Nat} (h : pcn n x = k) : (List.range' 0 k).map (fun j => (bl x n).getD j 0) = bl x n := by
  apply List.ext_getElem?
  intro i
  rw [List.getElem?_map]
  rcases Nat.lt_or_ge i k with q | q
  · rw [List.getElem?_range' (by omega)]
    have := (bl_getD_lt (x := x) (n := n) (j := i) (by omega)).1
    rw [this]
    simp
  · rw [List.getElem?_eq_none (by rw [List.length_range']; omega), List.getElem?_eq_none (by rw [bl_len]; omega)]
    rfl
section
/-- a set of k males and k females: whether they can be paired -/
theorem w_can0 {n : Nat} (hn : n ≤ 12) {M : Nat} {sx : Nat → Int32} (hM : ∀ a, a < n → (sx a = 0 ↔ M.testBit a = true)) (hMn : M < 2 ^ n) {s k : Nat} (hs : s < 2 ^ n) (hk : k ≤ 6) {br wf wm now th : Nat → Int32} (h1 : holdA wm (bl (s &&& M) n)) (h2 : holdA wf (bl (dif s M) n)) (c1 : pcn n (s &&& M) = k) (c2 : pcn n (dif s M) = k) {post : Int32 → (Nat → Int32) → (Nat → Int32) → Prop}
    (hp : ∀ now th, post (if (pairM br n (bl (s &&& M) n) (dif s M)).isSome = true then 1 else 0) now th) : wp_M_canPair wf br wm (nI k) now th 0 0 post := by
  have hs2 : dif s M < 2 ^ n := tb_small (fun i hi => by rw [dif_bit, tb_lt hs hi]; rfl)
  refine w_canPair hk (fa := fun j => (bl (dif s M) n).getD j 0) (ma := fun j => (bl (s &&& M) n).getD j 0) (fun j hj => ?_) (fun j hj => ?_) (t0 := 0) (tk := 0) (Nat.zero_le _) (by decide) (fun now th r hr => ?_)
  · have q := bl_getD_lt (x := dif s M) (n := n) (j := j) (by omega)
    exact ⟨h2 j _ q.1, by omega⟩
  · have q := bl_getD_lt (x := s &&& M) (n := n) (j := j) (by omega)
    exact ⟨h1 j _ q.1, by omega⟩
  · rw [Nat.sub_zero, can_pair hk (n := n) (fun j hj => (bl_getD_lt (x := dif s M) (n := n) (j := j) (by omega)).2.1) (fun i j hi hj h => bl_inj (x := dif s M) (n := n) (by omega) (by omega) h) k 0 0 (dif s M) (Nat.two_pow_pos _) (by
      have : pcn k 0 = 0 := by
        clear hp hr c1 c2 hk
        induction k with
        | zero => rfl
        | succ k ih => rw [pcn, ih]; simp
      omega) (fun a => ⟨fun h => ?_, fun ⟨j, q1, q2, _⟩ => ?_⟩), bl_map c1] at hr
    · have := hp now th
      rcases hr with ⟨rfl, h⟩ | ⟨rfl, h⟩
      · rw [if_pos h] at this
        exact this
      · rw [if_neg h] at this
        exact this
    · have ha : a < n := by
        rcases Nat.lt_or_ge a n with q | q
        · exact q
        · rw [tb_lt hs2 q] at h
          cases h
      obtain ⟨j, q1, q2⟩ := bl_ex ha h
      exact ⟨j, by omega, q2, Nat.zero_testBit j⟩
    · rw [← q2]
      exact (bl_getD_lt (x := dif s M) (n := n) (j := j) (by omega)).2.2
theorem m_find_a {n : Nat} (hn : n ≤ 12) {M : Nat} {sx : Nat → Int32} (hM : ∀ a, a < n → (sx a = 0 ↔ M.testBit a = true)) (hMn : M < 2 ^ n) {fm kn br ls wt : Nat → Int32} {lim mo td tb : Int32} {k A : Nat} (hk : k ≤ 6) (hk0 : 0 < k) {post : Int32 → Int32 → Int32 → (Nat → Int32) → (Nat → Int32) → Int32 → (Nat → Int32) → Int32 → (Nat → Int32) → Prop}
    (hp : ∀ f m mn now th, post (if lsS M fm kn br ls lim mo n k A (2 ^ n) = [] then 0 else 1) (nI ((bst (fun s => wsT wt td tb s n) (lsS M fm kn br ls lim mo n k A (2 ^ n))).getD 0)) (((bst (fun s => wsT wt td tb s n) (lsS M fm kn br ls lim mo n k A (2 ^ n))).map (fun s => wsT wt td tb s n)).getD 0) f m mn now (nI (lsS M fm kn br ls lim mo n k A (2 ^ n)).length) th) :
    ∀ (q x : Nat) (f m : Nat → Int32) (mn : Int32) (now th : Nat → Int32), x + q = 2 ^ n → 0 < x → wp_M_find_L17 (nI n) fm br kn ls lim mo sx td tb wt (nI k) (nI A) post (q + 1) (nI x) (nI ((bst (fun s => wsT wt td tb s n) (lsS M fm kn br ls lim mo n k A x)).getD 0)) (((bst (fun s => wsT wt td tb s n) (lsS M fm kn br ls lim mo n k A x)).map (fun s => wsT wt td tb s n)).getD 0) f m mn now (nI (lsS M fm kn br ls lim mo n k A x).length) th := by
  have h12 : 2 ^ n ≤ 2 ^ 12 := Nat.pow_le_pow_right (by decide) hn
  have hlen : ∀ x, x ≤ 2 ^ n → (lsS M fm kn br ls lim mo n k A x).length ≤ 4096 := fun x hx => by
    have := List.length_filter_le (fun s => decide (dif s A = 0) && mayS M fm kn br ls lim mo n k s) (List.range x)
    rw [List.length_range] at this
    unfold lsS
    omega
  intro q
  induction q with
  | zero =>
    intro x f m mn now th hx h0
    rw [wp_M_find_L17, mk_bit (by omega)]
    have ex : x = 2 ^ n := by omega
    subst ex
    have hl := hlen (2 ^ n) (Nat.le_refl _)
    have hp' := hp f m mn now th
    refine pk_le (2 ^ n) (2 ^ n) (fun _ => ?_) (fun h => absurd h (by omega))
    refine ⟨fun h => ?_, fun h => ?_⟩
    · have e : (lsS M fm kn br ls lim mo n k A (2 ^ n)).length = 0 := by
        rcases Nat.eq_zero_or_pos (lsS M fm kn br ls lim mo n k A (2 ^ n)).length with z | z
        · exact z
        · exact absurd h (nI_nle z (by omega))
      rw [if_pos (List.eq_nil_of_length_eq_zero e)] at hp'
      exact hp'
    · have e : ¬ lsS M fm kn br ls lim mo n k A (2 ^ n) = [] := fun e => h (by rw [e]; decide)
      rw [if_neg e] at hp'
      exact hp'
  | succ q ih =>
    intro x f m mn now th hx h0
    rw [wp_M_find_L17, mk_bit (by omega)]
    refine pk_le (2 ^ n) x (fun h => absurd h (by omega)) (fun _ => ?_)
    have hx31 : x < 2 ^ 31 := by omega
    have hlx := hlen x (by omega)
    -- one more set
    have hadd : lsS M fm kn br ls lim mo n k A (x + 1) = if (decide (dif x A = 0) && mayS M fm kn br ls lim mo n k x) = true then lsS M fm kn br ls lim mo n k A x ++ [x] else lsS M fm kn br ls lim mo n k A x := by
      unfold lsS
      rw [List.range_succ, List.filter_append]
      cases hc : (decide (dif x A = 0) && mayS M fm kn br ls lim mo n k x) <;> simp [hc]
    have ih1 := fun f m mn now th => ih (x + 1) f m mn now th (by omega) (by omega)
    rw [hadd] at ih1
    rw [mk_andn, mk_z (by have := tb_small (x := dif x A) (n := 12) (fun i hi => by rw [dif_bit, tb_lt (n := n) (by omega) (by omega)]; rfl); omega), nI_1]
    refine ⟨fun hd => ?_, fun hd => w_part hn hx31 hM (by omega) (fun wf wm a1 a2 => ?_)⟩
    · rw [if_neg (by simp [hd])] at ih1
      exact ih1 _ _ _ _ _
    · by_cases hc : pcn n (x &&& M) = k ∧ pcn n (dif x M) = k
      · rw [if_pos hc]
        refine ⟨fun z => absurd z (by decide), fun _ => w_fits hn hx31 ?_⟩
        cases hf : fitsS fm kn ls lim mo n k x
        · refine ⟨fun _ => ?_, fun z => absurd rfl z⟩
          rw [if_neg (by simp [mayS, hf])] at ih1
          exact ih1 _ _ _ _ _
        · refine ⟨fun z => absurd z (by decide), fun _ => ?_⟩
          rw [hc.1]
          refine w_can0 hn hM hMn (by omega) hk a1 a2 hc.1 hc.2 (fun now th => ?_)
          cases hq : (pairM br n (bl (x &&& M) n) (dif x M)).isSome
          · refine ⟨fun _ => ?_, fun z => absurd rfl z⟩
            rw [if_neg (by simp [mayS, hq])] at ih1
            exact ih1 _ _ _ _ _
          · refine ⟨fun z => absurd z (by decide), fun _ => w_worthOf hn hx31 ?_⟩
            rw [if_pos (by simp [mayS, hf, hq, hc.1, hc.2, hd])] at ih1
            rw [nI_1, ← show (lsS M fm kn br ls lim mo n k A x ++ [x]).length = (lsS M fm kn br ls lim mo n k A x).length + 1 from by rw [List.length_append]; rfl]
            rw [bst_add] at ih1
            cases hb : bst (fun s => wsT wt td tb s n) (lsS M fm kn br ls lim mo n k A x) with
            | none =>
              have hnil := bst_none.1 hb
              have ih2 := ih1 wf wm (nI k) now th
              rw [hb] at ih2
              have e0 : nI (lsS M fm kn br ls lim mo n k A x).length = 0 := by rw [hnil]; decide
              exact ⟨fun _ => ⟨fun _ => ih2, fun z => absurd e0 z⟩, fun _ => ⟨fun _ => ih2, fun z => absurd e0 z⟩⟩
            | some b =>
              have hpos : ¬ nI (lsS M fm kn br ls lim mo n k A x).length = 0 := nI_ne0 (by
                rcases Nat.eq_zero_or_pos (lsS M fm kn br ls lim mo n k A x).length with z | z
                · rw [bst_none.2 (List.eq_nil_of_length_eq_zero z)] at hb
                  cases hb
                · exact z) (by omega)
              have ih2 := ih1 wf wm (nI k) now th
              rw [hb] at ih2
              unfold bstep at ih2
              dsimp only at ih2
              refine ⟨fun hE => ⟨fun z => absurd z hpos, fun _ => ⟨fun hlt => ?_, fun hlt => ⟨fun hne => ?_, fun heq => ?_⟩⟩⟩, fun hE => ⟨fun z => absurd z hpos, fun _ => ⟨fun hlt => ?_, fun hlt => ⟨fun hne => ?_, fun heq => ?_⟩⟩⟩⟩
              · have hlt' : wsT wt td tb b n < wsT wt td tb x n := hlt
                rw [if_pos (Or.inl hlt')] at ih2
                exact ih2
              · rw [if_neg (fun z => z.elim hlt (fun w => hne w.1))] at ih2
                exact ih2
              · rw [if_neg (fun z => z.elim hlt (fun w => w.2 hE))] at ih2
                exact ih2
              · have hlt' : wsT wt td tb b n < wsT wt td tb x n := hlt
                rw [if_pos (Or.inl hlt')] at ih2
                exact ih2
              · rw [if_neg (fun z => z.elim hlt (fun w => hne w.1))] at ih2
                exact ih2
              · rw [if_pos (Or.inr ⟨heq, hE⟩)] at ih2
                exact ih2
      · rw [if_neg hc]
        refine ⟨fun _ => ?_, fun z => absurd rfl z⟩
        rw [if_neg (by
          intro z
          simp [mayS] at z
          exact hc ⟨z.2.1.1.1, z.2.1.1.2⟩)] at ih1
        exact ih1 _ _ _ _ _
theorem w_find {n : Nat} (hn : n ≤ 12) {M : Nat} {sx : Nat → Int32} (hM : ∀ a, a < n → (sx a = 0 ↔ M.testBit a = true)) (hMn : M < 2 ^ n) {fm kn br ls wt : Nat → Int32} {lim mo td tb : Int32} {k A : Nat} (hk : k ≤ 6) (hk0 : 0 < k) {b0 bw0 mn0 st0 : Int32} {f0 m0 now0 th0 : Nat → Int32} {post : Int32 → Int32 → Int32 → (Nat → Int32) → (Nat → Int32) → Int32 → (Nat → Int32) → Int32 → (Nat → Int32) → Prop}
    (hp : ∀ f m mn now th, post (if lsS M fm kn br ls lim mo n k A (2 ^ n) = [] then 0 else 1) (nI ((bst (fun s => wsT wt td tb s n) (lsS M fm kn br ls lim mo n k A (2 ^ n))).getD 0)) (((bst (fun s => wsT wt td tb s n) (lsS M fm kn br ls lim mo n k A (2 ^ n))).map (fun s => wsT wt td tb s n)).getD 0) f m mn now (nI (lsS M fm kn br ls lim mo n k A (2 ^ n)).length) th) :
    wp_M_find (nI n) b0 bw0 fm f0 br kn ls lim m0 mn0 mo now0 st0 sx td tb th0 wt (nI k) (nI A) post := by
  unfold wp_M_find
  refine ⟨2 ^ n, ?_⟩
  have h1 : lsS M fm kn br ls lim mo n k A 1 = [] := by
    unfold lsS
    have e : mayS M fm kn br ls lim mo n k 0 = false := by
      have : pcn n (0 &&& M) = 0 := by
        rw [Nat.zero_and]
        clear hp hM hMn hn
        induction n with
        | zero => rfl
        | succ n ih => rw [pcn, ih]; simp
      unfold mayS
      rw [this, decide_eq_false (by omega)]
      rfl
    simp [List.range_succ, e]
  have := m_find_a hn hM hMn hk hk0 hp (2 ^ n - 1) 1 f0 m0 mn0 now0 th0 (by have := Nat.two_pow_pos n; omega) (by decide)
  rw [h1, show 2 ^ n - 1 + 1 = 2 ^ n by have := Nat.two_pow_pos n; omega] at this
  exact this
end
